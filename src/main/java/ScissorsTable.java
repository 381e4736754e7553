import java.util.Arrays;
import java.util.NoSuchElementException;

/** A table of solids, told as bags of tetrahedra with whole corners, that may be cut into one another. */
public final class ScissorsTable {
    public static final int NONE = -1;
    public static final int HIDDEN = -1000000;

    private static final int NO_SUCH = -1;
    private static final int OUT_OF_BOUNDS = -2;
    private static final int CANNOT_BE = -3;
    private static final int TOO_MANY = -4;

    private static final int SOLIDS = 4;
    private static final int MOST_TETS = 48;
    private static final int MOST_PICKS = 6;
    private static final int EDGES = 6;
    private static final int REACH = 9;
    private static final int MOST_MOVE = 18;
    private static final int TURNS = 48;

    /** The two corners of each edge. */
    private static final int[] ENDS = {0, 1, 0, 2, 0, 3, 1, 2, 1, 3, 2, 3};
    /** The six orders of the axes, XYZ, XZY, YXZ, YZX, ZXY, ZYX. */
    private static final int[] ORDERS = {0, 1, 2, 0, 2, 1, 1, 0, 2, 1, 2, 0, 2, 0, 1, 2, 1, 0};

    private final Tape tape = new Tape();
    private final Reader reader = new Reader(tape);
    private final Bag bag = new Bag();
    private final Builder builder = new Builder(bag);
    private final Angle angle = new Angle();
    private final Sums sums = new Sums();
    private final Sums picks = new Sums();
    private int picked;
    private final Hang hang = new Hang();
    private final Inside inside = new Inside();
    private final Shreds shreds = new Shreds(inside);
    private final Stairs stairs = new Stairs();
    private final int[] turned = new int[Bag.WIDTH];

    public ScissorsTable() {
    }

    public int feed(int a, int b, int c, int d, int e) {
        int more = Tape.bytesIn(a) + Tape.bytesIn(b) + Tape.bytesIn(c) + Tape.bytesIn(d) + Tape.bytesIn(e);
        if (tape.length + more > Tape.MOST) {
            return NONE;
        }
        tape.take(a);
        tape.take(b);
        tape.take(c);
        tape.take(d);
        tape.take(e);
        return tape.length;
    }

    public boolean end(int n) {
        if (n < 0 || n > tape.length) {
            return false;
        }
        tape.length = n;
        return true;
    }

    public int fault() {
        return reader.firstFault();
    }

    public int text() {
        if (reader.firstFault() != NONE) {
            return NONE;
        }
        bag.size = 0;
        sums.clear();
        forgetPicks();
        int left = 0;
        boolean more = true;
        reader.begin();
        for (int k = 0; k <= Tape.MOST && more; k++) {
            reader.readClause();
            int before = bag.size;
            if (!builder.build(reader)) {
                left++;
            }
            weighFrom(before);
            more = reader.goesOn();
        }
        tape.length = 0;
        return left;
    }

    public int count(int what) {
        switch (what) {
            case 0: return bag.size;
            case 1: return tape.length;
            case 2: return picked;
            case 3: return stairs.steps;
            default: return HIDDEN;
        }
    }

    public int tet(int tet, int what) throws NoSuchElementException {
        if (!bag.has(tet) || what < 0 || what > 1) {
            throw new NoSuchElementException("no such TET or no such what");
        }
        return what == 0 ? bag.solids[tet] : bag.sixes[tet];
    }

    public int corner(int tet, int corner, int axis) {
        if (!bag.has(tet) || corner < 0 || corner > 3 || axis < 0 || axis > 2) {
            return HIDDEN;
        }
        return bag.corners[tet * Bag.WIDTH + corner * 3 + axis];
    }

    public int edge(int tet, int edge, int what) {
        if (!isEdge(tet, edge)) {
            return HIDDEN;
        }
        angle.measure(bag.corners, tet * Bag.WIDTH, edge);
        switch (what) {
            case 0: return angle.q;
            case 1: return angle.m;
            case 2: return angle.a;
            case 3: return angle.b;
            case 4: return angle.twelfths;
            case 5:
                angle.split();
                return angle.size;
            default: return HIDDEN;
        }
    }

    public int prime(int tet, int edge, int i, int what) {
        if (!isEdge(tet, edge) || i < 0 || what < 0 || what > 1) {
            return HIDDEN;
        }
        angle.measure(bag.corners, tet * Bag.WIDTH, edge);
        angle.split();
        if (i >= angle.size) {
            return HIDDEN;
        }
        return what == 0 ? angle.primes[i] : angle.powers[i];
    }

    public int solid(int solid, int what) {
        if (!isSolid(solid)) {
            return NONE;
        }
        switch (what) {
            case 0: return bag.sixOfSolid(solid);
            case 1: return bag.tetsOfSolid(solid);
            case 2: return oddEdges(solid);
            case 3: return sums.terms(solid);
            default: return NONE;
        }
    }

    public int term(int solid, int i, int what) {
        if (!isSolid(solid)) {
            return HIDDEN;
        }
        int row = sums.rowOfTerm(solid, i);
        if (row < 0) {
            return HIDDEN;
        }
        switch (what) {
            case 0: return sums.ms[row];
            case 1: return sums.ps[row];
            case 2: return sums.at(row, solid);
            default: return HIDDEN;
        }
    }

    public int much(int solid, int m, int p) {
        if (!isSolid(solid)) {
            return HIDDEN;
        }
        int row = sums.firstNotBelow(m, p);
        return sums.isAt(row, m, p) ? sums.at(row, solid) : 0;
    }

    public int alike(int solid, int other) {
        if (!isSolid(solid) || !isSolid(other)) {
            return NONE;
        }
        if (bag.sixOfSolid(solid) != bag.sixOfSolid(other)) {
            return 1;
        }
        return sums.firstUnlike(solid, other) < 0 ? 0 : 2;
    }

    public int unlike(int solid, int other, int what) {
        if (!isSolid(solid) || !isSolid(other)) {
            return HIDDEN;
        }
        int row = sums.firstUnlike(solid, other);
        if (row < 0) {
            return HIDDEN;
        }
        switch (what) {
            case 0: return sums.ms[row];
            case 1: return sums.ps[row];
            case 2: return sums.at(row, solid) - sums.at(row, other);
            default: return HIDDEN;
        }
    }

    public int lacks(int solid, int other) {
        if (!isSolid(solid) || !isSolid(other)) {
            return HIDDEN;
        }
        return bag.sixOfSolid(solid) - bag.sixOfSolid(other);
    }

    public int where(int tet, int x, int y, int z) {
        if (!bag.has(tet)) {
            return NONE;
        }
        if (!isNear(x) || !isNear(y) || !isNear(z)) {
            return 0;
        }
        inside.load(bag.corners, tet * Bag.WIDTH);
        return inside.place(x, y, z);
    }

    public int cut(int tet, int x, int y, int z) {
        if (!bag.has(tet)) {
            return NO_SUCH;
        }
        if (!isNear(x) || !isNear(y) || !isNear(z)) {
            return OUT_OF_BOUNDS;
        }
        inside.load(bag.corners, tet * Bag.WIDTH);
        int parts = inside.place(x, y, z);
        if (parts < 2) {
            return CANNOT_BE;
        }
        if (bag.size + parts - 1 > MOST_TETS) {
            return TOO_MANY;
        }
        weigh(tet, -1);
        int before = bag.size;
        bag.cutAt(tet, x, y, z);
        weigh(tet, 1);
        weighFrom(before);
        forgetPicks();
        return parts;
    }

    public int join(int tet, int other) {
        if (!bag.has(tet) || !bag.has(other)) {
            return NO_SUCH;
        }
        if (tet == other || bag.solids[tet] != bag.solids[other]) {
            return CANNOT_BE;
        }
        int low = Math.min(tet, other);
        int high = Math.max(tet, other);
        int own = bag.loneCorner(low, high);
        int far = bag.loneCorner(high, low);
        int middle = bag.cornerBetween(low, own, high, far);
        if (middle < 0) {
            return CANNOT_BE;
        }
        weigh(low, -1);
        weigh(high, -1);
        bag.copyCorner(high, far, low, middle);
        bag.measureTet(low);
        weigh(low, 1);
        bag.remove(high);
        forgetPicks();
        return low;
    }

    public int turn(int tet, int by) {
        if (!bag.has(tet)) {
            return NO_SUCH;
        }
        if (by < 0 || by >= TURNS) {
            return OUT_OF_BOUNDS;
        }
        int base = tet * Bag.WIDTH;
        int others = 0;
        for (int k = 0; k < Bag.WIDTH; k++) {
            int axis = k % 3;
            int old = bag.corners[base + k - axis + ORDERS[by / 8 * 3 + axis]];
            turned[k] = (by >> axis & 1) == 1 ? -old : old;
            others += turned[k] == bag.corners[base + k] ? 0 : 1;
        }
        if (others == 0) {
            return CANNOT_BE;
        }
        System.arraycopy(turned, 0, bag.corners, base, Bag.WIDTH);
        forgetPicks();
        return others;
    }

    public int move(int tet, int x, int y, int z) {
        if (!bag.has(tet)) {
            return NO_SUCH;
        }
        if (!isMove(x) || !isMove(y) || !isMove(z) || !bag.staysNear(tet, x, y, z)) {
            return OUT_OF_BOUNDS;
        }
        if (x == 0 && y == 0 && z == 0) {
            return CANNOT_BE;
        }
        bag.shift(tet, x, y, z);
        forgetPicks();
        return bag.sixes[tet];
    }

    public int give(int tet, int solid) {
        if (!bag.has(tet) || !isSolid(solid)) {
            return NO_SUCH;
        }
        int old = bag.solids[tet];
        if (old == solid) {
            return CANNOT_BE;
        }
        weigh(tet, -1);
        bag.solids[tet] = solid;
        weigh(tet, 1);
        forgetPicks();
        return old;
    }

    public int drop(int tet) {
        if (!bag.has(tet)) {
            return NO_SUCH;
        }
        weigh(tet, -1);
        bag.remove(tet);
        forgetPicks();
        return bag.size;
    }

    public int points(int tet) {
        if (!bag.has(tet)) {
            return NONE;
        }
        inside.load(bag.corners, tet * Bag.WIDTH);
        return inside.countPoints();
    }

    public int fairest(int tet, int what) {
        if (!bag.has(tet) || what < 0 || what > 3) {
            return HIDDEN;
        }
        inside.load(bag.corners, tet * Bag.WIDTH);
        return inside.findFairest() ? inside.best[what] : HIDDEN;
    }

    public int cutsTo(int tet, int six) {
        if (!bag.has(tet) || six < 1) {
            return NONE;
        }
        return shreds.countCuts(bag.corners, tet * Bag.WIDTH, six);
    }

    public int pick(int tet, int edge) {
        if (!isEdge(tet, edge)) {
            return NO_SUCH;
        }
        if (picked >= MOST_PICKS) {
            return CANNOT_BE;
        }
        angle.measure(bag.corners, tet * Bag.WIDTH, edge);
        angle.split();
        for (int k = 0; k < angle.size; k++) {
            picks.add(angle.m, angle.primes[k], picked, angle.powers[k]);
        }
        picked++;
        return picked;
    }

    public int unpick() {
        int were = picked;
        forgetPicks();
        return were;
    }

    public int rank() {
        hangPicks();
        return hang.rank;
    }

    public int relation(int i) {
        if (i < 0 || i >= picked) {
            return HIDDEN;
        }
        hangPicks();
        return hang.canTell() ? hang.timesOf(i) : HIDDEN;
    }

    public int rankOf(int solids) {
        if (!isSetOfSolids(solids)) {
            return NONE;
        }
        hangSolids(solids);
        return hang.rank;
    }

    public int relationOf(int solids, int solid) {
        if (!isSetOfSolids(solids) || !isSolid(solid)) {
            return HIDDEN;
        }
        hangSolids(solids);
        if (!hang.canTell()) {
            return HIDDEN;
        }
        if ((solids >> solid & 1) == 0) {
            return 0;
        }
        return hang.timesOf(Integer.bitCount(solids & (1 << solid) - 1));
    }

    public long multiples(int solid, int other, int what) {
        if (!isSolid(solid) || !isSolid(other) || what < 0 || what > 2) {
            return HIDDEN;
        }
        int row = sums.rowOfTerm(solid, 0);
        if (row < 0) {
            return HIDDEN;
        }
        long mine = sums.at(row, solid);
        long others = sums.at(row, other);
        if (mine < 0 != others < 0 || others == 0) {
            return HIDDEN;
        }
        long part = gcd(mine, others);
        long first = part == 0 ? 0 : Math.abs(others) / part;
        long second = part == 0 ? 0 : Math.abs(mine) / part;
        if (!sums.areEven(solid, first, other, second)) {
            return HIDDEN;
        }
        if (what == 2) {
            return first * bag.sixOfSolid(solid) - second * bag.sixOfSolid(other);
        }
        return what == 0 ? first : second;
    }

    public int plan(int a, int b, int c, int d, int e, int f) {
        if (!Stairs.areSides(a, b, c) || !Stairs.areSides(d, e, f) || a * b * c > Stairs.MOST_VOLUME) {
            return OUT_OF_BOUNDS;
        }
        if (a * b * c != d * e * f) {
            return CANNOT_BE;
        }
        if (!stairs.search(a, b, c, d, e)) {
            return NONE;
        }
        stairs.keep(a, b, c, d, e);
        return stairs.steps;
    }

    public int step(int i, int what) {
        if (i < 0 || i >= stairs.steps || what < 0 || what > 2) {
            return HIDDEN;
        }
        return stairs.labelOf(i, what);
    }

    public int side(int i, int axis) {
        if (!stairs.reaches(i) || axis < 0 || axis > 2) {
            return HIDDEN;
        }
        stairs.carry(0, 0, 0, i);
        return stairs.sides[axis];
    }

    public int cube(int x, int y, int z, int i, int axis) {
        if (!stairs.reaches(i) || axis < 0 || axis > 2 || !stairs.hasCube(x, y, z)) {
            return HIDDEN;
        }
        stairs.carry(x, y, z, i);
        return stairs.spot[axis];
    }

    public int pieces(int i) {
        return stairs.reaches(i) ? stairs.countPieces(i) : HIDDEN;
    }

    public int most(int what) {
        switch (what) {
            case 0: return sums.greatest(sums.ms);
            case 1: return sums.greatest(sums.ps);
            case 2: return bag.size * EDGES - oddEdges(NONE);
            case 3: return bag.greatestSix();
            case 4: return tetsWithPoints();
            case 5: return solidsWithoutSum();
            case 6: return alikeCouples();
            default: return HIDDEN;
        }
    }

    private static boolean isSolid(int solid) {
        return solid >= 0 && solid < SOLIDS;
    }

    private static boolean isSetOfSolids(int solids) {
        return solids >= 0 && solids < 1 << SOLIDS;
    }

    private static boolean isNear(int number) {
        return number >= -REACH && number <= REACH;
    }

    private static boolean isMove(int number) {
        return number >= -MOST_MOVE && number <= MOST_MOVE;
    }

    private boolean isEdge(int tet, int edge) {
        return bag.has(tet) && edge >= 0 && edge < EDGES;
    }

    private static long gcd(long a, long b) {
        long x = Math.abs(a);
        long y = Math.abs(b);
        // Euclid's rests halve in every two rounds: 200 rounds are beyond any long.
        for (int k = 0; k < 200 && y != 0; k++) {
            long rest = x % y;
            x = y;
            y = rest;
        }
        return x;
    }

    private void forgetPicks() {
        picked = 0;
        picks.clear();
    }

    /** Adds the edges of a TET so many times to the SUM of its SOLID. */
    private void weigh(int tet, int times) {
        for (int edge = 0; edge < EDGES; edge++) {
            angle.measure(bag.corners, tet * Bag.WIDTH, edge);
            angle.split();
            for (int k = 0; k < angle.size; k++) {
                sums.add(angle.m, angle.primes[k], bag.solids[tet], times * angle.q * angle.powers[k]);
            }
        }
    }

    private void weighFrom(int first) {
        for (int tet = first; tet < bag.size; tet++) {
            weigh(tet, 1);
        }
    }

    /** The EDGES that are not EVEN of a SOLID, or of all SOLIDS if it is NONE. */
    private int oddEdges(int solid) {
        int odd = 0;
        for (int tet = 0; tet < bag.size; tet++) {
            for (int edge = 0; edge < EDGES && (solid == NONE || bag.solids[tet] == solid); edge++) {
                angle.measure(bag.corners, tet * Bag.WIDTH, edge);
                odd += angle.twelfths == NONE ? 1 : 0;
            }
        }
        return odd;
    }

    private void hangPicks() {
        hang.begin();
        for (int k = 0; k < picked; k++) {
            hang.next(picks, k);
        }
    }

    private void hangSolids(int solids) {
        hang.begin();
        for (int k = 0; k < SOLIDS; k++) {
            if ((solids >> k & 1) == 1) {
                hang.next(sums, k);
            }
        }
    }

    private int tetsWithPoints() {
        int found = 0;
        for (int tet = 0; tet < bag.size; tet++) {
            inside.load(bag.corners, tet * Bag.WIDTH);
            found += inside.countPoints() > 4 ? 1 : 0;
        }
        return found;
    }

    private int solidsWithoutSum() {
        int bits = 0;
        for (int solid = 0; solid < SOLIDS; solid++) {
            bits |= sums.rowOfTerm(solid, 0) < 0 ? 1 << solid : 0;
        }
        return bits;
    }

    private int alikeCouples() {
        int couples = 0;
        for (int one = 0; one < SOLIDS; one++) {
            for (int other = one + 1; other < SOLIDS; other++) {
                boolean both = bag.tetsOfSolid(one) > 0 && bag.tetsOfSolid(other) > 0;
                couples += both && alike(one, other) == 0 ? 1 : 0;
            }
        }
        return couples;
    }

    /** The bytes that tell a TEXT. */
    private static final class Tape {
        static final int MOST = 600;

        final byte[] bytes = new byte[MOST];
        int length;

        static int bytesIn(int word) {
            int found = 0;
            for (int shift = 24; shift >= 0; shift -= 8) {
                found += (word >> shift & 255) != 0 ? 1 : 0;
            }
            return found;
        }

        void take(int word) {
            for (int shift = 24; shift >= 0; shift -= 8) {
                int sign = word >> shift & 255;
                if (sign != 0 && length < MOST) {
                    bytes[length] = (byte) sign;
                    length++;
                }
            }
        }
    }

    /** Reads the CLAUSES of a TAPE one behind the other; at a FAULT it stands still there. */
    private static final class Reader {
        static final int TET_NUMBERS = 12;
        static final int MOST_POLYGON = 6;

        final Tape tape;
        /** A TET's twelve numbers; a BOX's CORNER and sides; a PRISM's HEIGHT and polygon. */
        final int[] numbers = new int[1 + 2 * MOST_POLYGON];
        int size;
        int kind;
        int solid;
        int at;
        boolean faulty;

        Reader(Tape tape) {
            this.tape = tape;
        }

        int firstFault() {
            begin();
            boolean more = true;
            for (int k = 0; k <= Tape.MOST && more; k++) {
                readClause();
                more = goesOn();
            }
            return faulty ? at : NONE;
        }

        void begin() {
            at = 0;
            faulty = false;
        }

        /** Whether another CLAUSE is told behind the one that was read; all but a ; or the end is a FAULT. */
        boolean goesOn() {
            skipBlanks();
            if (faulty || at >= tape.length) {
                return false;
            }
            needSign(';');
            return !faulty;
        }

        void readClause() {
            size = 0;
            skipBlanks();
            kind = sign();
            if (kind != 't' && kind != 'b' && kind != 'p') {
                faulty = true;
                return;
            }
            at++;
            solid = needDigit(0, SOLIDS - 1);
            needSign(':');
            if (kind == 't') {
                readTet();
            } else if (kind == 'b') {
                readBox();
            } else {
                readPrism();
            }
        }

        private void readTet() {
            for (int k = 0; k < TET_NUMBERS && !faulty; k++) {
                if (k > 0) {
                    needSign(k % 3 == 0 ? '/' : ',');
                }
                keep(needNumber());
            }
        }

        private void readBox() {
            for (int k = 0; k < 6 && !faulty; k++) {
                if (k > 0) {
                    needSign(k == 3 ? '/' : ',');
                }
                keep(k < 3 ? needNumber() : needDigit(1, 9));
            }
        }

        private void readPrism() {
            keep(needDigit(1, 9));
            boolean more = true;
            for (int k = 0; k < MOST_POLYGON && more && !faulty; k++) {
                needSign('/');
                keep(needNumber());
                needSign(',');
                keep(needNumber());
                skipBlanks();
                more = k < 2 || sign() == '/';
            }
        }

        private void keep(int number) {
            if (!faulty && size < numbers.length) {
                numbers[size] = number;
                size++;
            }
        }

        private int sign() {
            return at < tape.length && at < Tape.MOST ? tape.bytes[at] : 0;
        }

        private void skipBlanks() {
            for (int k = 0; k < Tape.MOST && !faulty && sign() == ' '; k++) {
                at++;
            }
        }

        private void needSign(int wanted) {
            skipBlanks();
            if (faulty || sign() != wanted) {
                faulty = true;
            } else {
                at++;
            }
        }

        private int needDigit(int least, int greatest) {
            skipBlanks();
            return digitHere(least, greatest);
        }

        private int needNumber() {
            skipBlanks();
            if (faulty || sign() != '-') {
                return digitHere(0, 9);
            }
            at++;
            return -digitHere(0, 9);
        }

        private int digitHere(int least, int greatest) {
            int digit = sign() - '0';
            if (faulty || digit < least || digit > greatest) {
                faulty = true;
                return 0;
            }
            at++;
            return digit;
        }
    }

    /** The TETS of all SOLIDS. */
    private static final class Bag {
        static final int WIDTH = 12;

        final int[] corners = new int[MOST_TETS * WIDTH];
        final int[] solids = new int[MOST_TETS];
        final int[] sixes = new int[MOST_TETS];
        private final int[] whole = new int[WIDTH];
        private final int[] piece = new int[WIDTH];
        int size;

        boolean has(int tet) {
            return tet >= 0 && tet < size && tet < MOST_TETS;
        }

        /** SIX of four corners with the sign of their turn: 0 if they are in one plane. */
        static int turnOf(int[] corners, int from) {
            if (from < 0 || from > corners.length - WIDTH) {
                return 0;
            }
            int ax = corners[from + 3] - corners[from];
            int ay = corners[from + 4] - corners[from + 1];
            int az = corners[from + 5] - corners[from + 2];
            int bx = corners[from + 6] - corners[from];
            int by = corners[from + 7] - corners[from + 1];
            int bz = corners[from + 8] - corners[from + 2];
            int cx = corners[from + 9] - corners[from];
            int cy = corners[from + 10] - corners[from + 1];
            int cz = corners[from + 11] - corners[from + 2];
            return ax * (by * cz - bz * cy) + ay * (bz * cx - bx * cz) + az * (bx * cy - by * cx);
        }

        void measureTet(int tet) {
            sixes[tet] = Math.abs(turnOf(corners, tet * WIDTH));
        }

        /** Puts a TET behind all others; false, and nothing is put, if it lies in one plane or there is no room. */
        boolean put(int[] from, int solid) {
            int six = Math.abs(turnOf(from, 0));
            if (six == 0 || size >= MOST_TETS) {
                return false;
            }
            System.arraycopy(from, 0, corners, size * WIDTH, WIDTH);
            solids[size] = solid;
            sixes[size] = six;
            size++;
            return true;
        }

        void remove(int tet) {
            int behind = size - tet - 1;
            System.arraycopy(corners, (tet + 1) * WIDTH, corners, tet * WIDTH, behind * WIDTH);
            System.arraycopy(solids, tet + 1, solids, tet, behind);
            System.arraycopy(sixes, tet + 1, sixes, tet, behind);
            size--;
        }

        /** Puts the point in place of each CORNER in turn; the caller has seen that it lies in the TET and there is room. */
        void cutAt(int tet, int x, int y, int z) {
            boolean first = true;
            System.arraycopy(corners, tet * WIDTH, whole, 0, WIDTH);
            for (int corner = 0; corner < WIDTH; corner += 3) {
                System.arraycopy(whole, 0, piece, 0, WIDTH);
                piece[corner] = x;
                piece[corner + 1] = y;
                piece[corner + 2] = z;
                if (first && turnOf(piece, 0) != 0) {
                    System.arraycopy(piece, 0, corners, tet * WIDTH, WIDTH);
                    measureTet(tet);
                    first = false;
                } else {
                    put(piece, solids[tet]);
                }
            }
        }

        /** The only CORNER of a TET that the other one has not; NONE if it has all, or lacks several. */
        int loneCorner(int tet, int other) {
            int lone = NONE;
            int lacking = 0;
            for (int corner = 0; corner < 4; corner++) {
                if (!hasCorner(other, tet, corner)) {
                    lone = corner;
                    lacking++;
                }
            }
            return lacking == 1 ? lone : NONE;
        }

        private boolean hasCorner(int tet, int other, int corner) {
            int from = other * WIDTH + corner * 3;
            for (int at = tet * WIDTH; at < tet * WIDTH + WIDTH; at += 3) {
                if (corners[at] == corners[from] && corners[at + 1] == corners[from + 1]
                        && corners[at + 2] == corners[from + 2]) {
                    return true;
                }
            }
            return false;
        }

        /** The CORNER of the first TET that lies between its own lone one and that of the other TET. */
        int cornerBetween(int tet, int own, int other, int far) {
            if (own < 0 || far < 0) {
                return NONE;
            }
            for (int corner = 0; corner < 4; corner++) {
                if (corner != own && liesBetween(tet * WIDTH + corner * 3, tet * WIDTH + own * 3, other * WIDTH + far * 3)) {
                    return corner;
                }
            }
            return NONE;
        }

        private boolean liesBetween(int middle, int one, int other) {
            int ax = corners[one] - corners[middle];
            int ay = corners[one + 1] - corners[middle + 1];
            int az = corners[one + 2] - corners[middle + 2];
            int bx = corners[other] - corners[middle];
            int by = corners[other + 1] - corners[middle + 1];
            int bz = corners[other + 2] - corners[middle + 2];
            boolean inLine = ay * bz == az * by && az * bx == ax * bz && ax * by == ay * bx;
            return inLine && ax * bx + ay * by + az * bz < 0;
        }

        void copyCorner(int from, int corner, int to, int place) {
            System.arraycopy(corners, from * WIDTH + corner * 3, corners, to * WIDTH + place * 3, 3);
        }

        boolean staysNear(int tet, int x, int y, int z) {
            for (int at = tet * WIDTH; at < tet * WIDTH + WIDTH; at += 3) {
                if (!isNear(corners[at] + x) || !isNear(corners[at + 1] + y) || !isNear(corners[at + 2] + z)) {
                    return false;
                }
            }
            return true;
        }

        void shift(int tet, int x, int y, int z) {
            for (int at = tet * WIDTH; at < tet * WIDTH + WIDTH; at += 3) {
                corners[at] += x;
                corners[at + 1] += y;
                corners[at + 2] += z;
            }
        }

        int sixOfSolid(int solid) {
            int all = 0;
            for (int tet = 0; tet < size; tet++) {
                all += solids[tet] == solid ? sixes[tet] : 0;
            }
            return all;
        }

        int tetsOfSolid(int solid) {
            int all = 0;
            for (int tet = 0; tet < size; tet++) {
                all += solids[tet] == solid ? 1 : 0;
            }
            return all;
        }

        int greatestSix() {
            int greatest = 0;
            for (int tet = 0; tet < size; tet++) {
                greatest = Math.max(greatest, sixes[tet]);
            }
            return greatest;
        }
    }

    /** Makes TETS of what a Reader has read. */
    private static final class Builder {
        final Bag bag;
        private final int[] row = new int[Bag.WIDTH];

        Builder(Bag bag) {
            this.bag = bag;
        }

        /** False, and nothing is put, if such a CLAUSE can't be. */
        boolean build(Reader read) {
            if (read.kind == 't') {
                System.arraycopy(read.numbers, 0, row, 0, Bag.WIDTH);
                return bag.put(row, read.solid);
            }
            return read.kind == 'b' ? buildBox(read.numbers, read.solid) : buildPrism(read);
        }

        private boolean buildBox(int[] numbers, int solid) {
            if (bag.size + 6 > MOST_TETS) {
                return false;
            }
            for (int axis = 0; axis < 3; axis++) {
                if (!isNear(numbers[axis] + numbers[axis + 3])) {
                    return false;
                }
            }
            for (int order = 0; order < 18; order += 3) {
                System.arraycopy(numbers, 0, row, 0, 3);
                for (int k = 0; k < 3; k++) {
                    int axis = ORDERS[order + k];
                    System.arraycopy(row, k * 3, row, k * 3 + 3, 3);
                    row[k * 3 + 3 + axis] += numbers[axis + 3];
                }
                bag.put(row, solid);
            }
            return true;
        }

        private boolean buildPrism(Reader read) {
            int sides = (read.size - 1) / 2;
            if (bag.size + 3 * (sides - 2) > MOST_TETS || !turnsOneWay(read.numbers, sides)) {
                return false;
            }
            for (int c = 2; c < sides; c++) {
                for (int raised = 1; raised <= 3; raised++) {
                    stand(read.numbers, c, raised);
                    bag.put(row, read.solid);
                }
            }
            return true;
        }

        /** Whether each three corners of a polygon, in their order, turn to the same side. */
        private static boolean turnsOneWay(int[] numbers, int sides) {
            int side = 0;
            for (int i = 0; i < sides; i++) {
                for (int j = i + 1; j < sides; j++) {
                    for (int k = j + 1; k < sides; k++) {
                        int turn = Integer.signum(turnOfThree(numbers, i, j, k));
                        if (turn == 0 || turn == -side) {
                            return false;
                        }
                        side = turn;
                    }
                }
            }
            return true;
        }

        private static int turnOfThree(int[] numbers, int i, int j, int k) {
            int ax = numbers[1 + 2 * j] - numbers[1 + 2 * i];
            int ay = numbers[2 + 2 * j] - numbers[2 + 2 * i];
            int bx = numbers[1 + 2 * k] - numbers[1 + 2 * i];
            int by = numbers[2 + 2 * k] - numbers[2 + 2 * i];
            return ax * by - ay * bx;
        }

        /** A B C C', A B B' C' or A A' B' C': of the corners A, B, C so many are told above, and the first of them below too. */
        private void stand(int[] numbers, int c, int raised) {
            int firstAbove = 4 - raised;
            for (int k = 0; k < 4; k++) {
                boolean above = k >= firstAbove;
                int which = above ? k - 1 : k;
                int corner = which == 0 ? 0 : c - 2 + which;
                row[k * 3] = numbers[1 + 2 * corner];
                row[k * 3 + 1] = numbers[2 + 2 * corner];
                row[k * 3 + 2] = above ? numbers[0] : 0;
            }
        }
    }

    /** LENGTH and ANGLE of one EDGE. */
    private static final class Angle {
        /** The product of the first twelve primes is beyond every norm that an EDGE can have. */
        static final int MOST_PRIMES = 12;
        static final int MOST_ROOT = 31;
        /** The square of the longest edge; that of a face's doubled area is at most this times this. */
        static final int MOST_TRIED = 972;
        static final int RIGHT = 6;

        int q;
        int m;
        int a;
        int b;
        /** Twelfths of a half turn, or NONE. */
        int twelfths;
        int size;
        final int[] primes = new int[MOST_PRIMES];
        /** How often, with the sign. */
        final int[] powers = new int[MOST_PRIMES];
        private final int[] along = new int[3];
        private final int[] one = new int[3];
        private final int[] other = new int[3];
        /** The squares of both faces' doubled areas: the norm's primes are among theirs. */
        private int oneFace;
        private int otherFace;

        /** All but the primes. */
        void measure(int[] corners, int from, int edge) {
            int start = ENDS[edge * 2];
            int far = EDGES - 1 - edge;
            difference(corners, from, start, ENDS[edge * 2 + 1], along);
            difference(corners, from, start, ENDS[far * 2], one);
            difference(corners, from, start, ENDS[far * 2 + 1], other);
            int square = dot(along, along);
            int oneShare = dot(one, along);
            int otherShare = dot(other, along);
            oneFace = square * dot(one, one) - oneShare * oneShare;
            otherFace = square * dot(other, other) - otherShare * otherShare;
            takeRoot(square);
            int real = square * dot(one, other) - oneShare * otherShare;
            int root = Math.abs(Bag.turnOf(corners, from)) * q;
            int part = (int) gcd(real, root);
            a = part > 0 ? real / part : 0;
            b = part > 0 ? root / part : 1;
            twelfths = findTwelfths();
            size = 0;
        }

        private static void difference(int[] corners, int from, int start, int end, int[] into) {
            for (int axis = 0; axis < 3; axis++) {
                into[axis] = corners[from + end * 3 + axis] - corners[from + start * 3 + axis];
            }
        }

        private static int dot(int[] one, int[] other) {
            return one[0] * other[0] + one[1] * other[1] + one[2] * other[2];
        }

        private void takeRoot(int square) {
            q = 1;
            for (int k = 2; k <= MOST_ROOT; k++) {
                if (square % (k * k) == 0) {
                    q = k;
                }
            }
            m = q > 0 ? square / (q * q) : square;
        }

        /** Only these angles are twelfths of a half turn with a tangent B by A times a root. */
        private int findTwelfths() {
            int real = Math.abs(a);
            int from = NONE;
            if (a == 0) {
                from = RIGHT;
            } else if (m == 1 && b == 1 && real == 1) {
                from = 3;
            } else if (m == 3 && b == 1 && real == 1) {
                from = 4;
            } else if (m == 3 && b == 1 && real == 3) {
                from = 2;
            }
            return from != NONE && a < 0 ? 2 * RIGHT - from : from;
        }

        /** The primes, behind measure(). */
        void split() {
            size = 0;
            if (twelfths != NONE) {
                return;
            }
            int x = oneFace;
            int y = otherFace;
            for (int p = 2; p <= MOST_TRIED && p * p <= Math.max(x, y); p += p == 2 ? 1 : 2) {
                if (x % p == 0 || y % p == 0) {
                    x = without(x, p);
                    y = without(y, p);
                    take(p);
                }
            }
            // What is left of each is 1 or a prime.
            take(Math.min(x, y));
            if (x != y) {
                take(Math.max(x, y));
            }
        }

        private static int without(int number, int p) {
            int rest = number;
            for (int k = 0; k < 32 && p > 1 && rest > 0 && rest % p == 0; k++) {
                rest /= p;
            }
            return rest;
        }

        private void take(int p) {
            if (p < 2 || size >= MOST_PRIMES || m % p == 0 || p == 2 && m % 8 != 7) {
                return;
            }
            long norm = (long) a * a + (long) m * b * b;
            int power = p == 2 ? -2 : 0;
            for (int k = 0; k < 64 && norm > 0 && norm % p == 0; k++) {
                norm /= p;
                power++;
            }
            if (power > 0) {
                primes[size] = p;
                powers[size] = isAboveNought(p) ? power : -power;
                size++;
            }
        }

        private boolean isAboveNought(int p) {
            if (p == 2) {
                return (a + b) % 4 == 0;
            }
            // By Fermat B to the power P - 2 is 1 by B in rests by P.
            long rest = Math.floorMod(a * power(b % p, p - 2, p), (long) p);
            return 2 * rest <= p;
        }

        private static long power(int base, int times, int p) {
            long result = 1;
            long square = base;
            for (int left = times; left > 0 && p > 0; left >>= 1) {
                if ((left & 1) == 1) {
                    result = result * square % p;
                }
                square = square * square % p;
            }
            return result;
        }
    }

    /** Whole numbers by (M, P), several columns of them, the rows by M rising, then P; a row of noughts is none. */
    private static final class Sums {
        static final int WIDTH = 6;
        static final int FIRST_ROOM = 16;

        int[] ms = new int[FIRST_ROOM];
        int[] ps = new int[FIRST_ROOM];
        private int[] amounts = new int[FIRST_ROOM * WIDTH];
        int size;

        void clear() {
            size = 0;
        }

        int at(int row, int column) {
            return row >= 0 && row < size && column >= 0 && column < WIDTH ? amounts[row * WIDTH + column] : 0;
        }

        boolean isAt(int row, int m, int p) {
            return row >= 0 && row < size && ms[row] == m && ps[row] == p;
        }

        int firstNotBelow(int m, int p) {
            int low = 0;
            int high = size;
            for (int k = 0; k < 32 && low < high; k++) {
                int middle = (low + high) >>> 1;
                if (ms[middle] < m || ms[middle] == m && ps[middle] < p) {
                    low = middle + 1;
                } else {
                    high = middle;
                }
            }
            return low;
        }

        void add(int m, int p, int column, int amount) {
            if (amount == 0 || column < 0 || column >= WIDTH) {
                return;
            }
            int row = firstNotBelow(m, p);
            if (!isAt(row, m, p)) {
                insert(row, m, p);
            }
            amounts[row * WIDTH + column] += amount;
            if (isNought(row)) {
                shiftRows(row + 1, row);
                size--;
            }
        }

        private void insert(int row, int m, int p) {
            if (size == ms.length) {
                ms = Arrays.copyOf(ms, 2 * size);
                ps = Arrays.copyOf(ps, 2 * size);
                amounts = Arrays.copyOf(amounts, 2 * size * WIDTH);
            }
            shiftRows(row, row + 1);
            ms[row] = m;
            ps[row] = p;
            Arrays.fill(amounts, row * WIDTH, row * WIDTH + WIDTH, 0);
            size++;
        }

        private void shiftRows(int from, int to) {
            int moved = size - from;
            System.arraycopy(ms, from, ms, to, moved);
            System.arraycopy(ps, from, ps, to, moved);
            System.arraycopy(amounts, from * WIDTH, amounts, to * WIDTH, moved * WIDTH);
        }

        private boolean isNought(int row) {
            for (int column = 0; column < WIDTH; column++) {
                if (at(row, column) != 0) {
                    return false;
                }
            }
            return true;
        }

        int terms(int column) {
            int found = 0;
            for (int row = 0; row < size; row++) {
                found += at(row, column) != 0 ? 1 : 0;
            }
            return found;
        }

        /** The row of the i-th number of a column that is not 0, or NONE. */
        int rowOfTerm(int column, int i) {
            int ahead = 0;
            for (int row = 0; row < size; row++) {
                if (at(row, column) != 0) {
                    if (ahead == i) {
                        return row;
                    }
                    ahead++;
                }
            }
            return NONE;
        }

        int firstUnlike(int column, int other) {
            for (int row = 0; row < size; row++) {
                if (at(row, column) != at(row, other)) {
                    return row;
                }
            }
            return NONE;
        }

        /** Whether one column so many times is the other one so many times. */
        boolean areEven(int column, long times, int other, long otherTimes) {
            for (int row = 0; row < size; row++) {
                if (times * at(row, column) != otherTimes * at(row, other)) {
                    return false;
                }
            }
            return true;
        }

        /** The greatest number of a row of keys, ms or ps. */
        int greatest(int[] keys) {
            int greatest = 0;
            for (int row = 0; row < size && row < keys.length; row++) {
                greatest = Math.max(greatest, keys[row]);
            }
            return greatest;
        }
    }

    /**
     * RANK and RELATION of columns of Sums, taken one behind the other. Numbers stay whole and within longs:
     * what is computed are determinants of at most five picked EDGES' or three SOLIDS' numbers.
     */
    private static final class Hang {
        int rank;
        private int taken;
        private boolean related;
        /** The columns that don't hang together, and for each the row that showed it. */
        private final int[] held = new int[MOST_PICKS + 1];
        private final int[] rows = new int[MOST_PICKS + 1];
        private final long[] trial = new long[MOST_PICKS + 1];
        private final long[] times = new long[MOST_PICKS];

        void begin() {
            rank = 0;
            taken = 0;
            related = false;
        }

        void next(Sums sums, int column) {
            if (taken >= MOST_PICKS || rank >= MOST_PICKS) {
                return;
            }
            held[rank] = column;
            for (int j = 0; j <= rank; j++) {
                trial[j] = minor(sums, 0, 1 << j) * ((j & 1) == 1 ? -1 : 1);
            }
            int row = firstOpenRow(sums);
            if (row >= 0) {
                rows[rank] = row;
                rank++;
            } else if (!related) {
                related = true;
                keepTimes();
            }
            taken++;
        }

        /** The determinant of the rows from this one on, without the columns whose bits are set. */
        private long minor(Sums sums, int depth, int without) {
            if (depth >= rank || depth > MOST_PICKS) {
                return 1;
            }
            long result = 0;
            boolean minus = false;
            for (int j = 0; j <= rank; j++) {
                if ((without >> j & 1) == 0) {
                    long factor = sums.at(rows[depth], held[j]);
                    if (factor != 0) {
                        long term = factor * minor(sums, depth + 1, without | 1 << j);
                        result += minus ? -term : term;
                    }
                    minus = !minus;
                }
            }
            return result;
        }

        /** The first row in which the columns so many times as tried do not add up to 0, or NONE. */
        private int firstOpenRow(Sums sums) {
            for (int row = 0; row < sums.size; row++) {
                long all = 0;
                for (int j = 0; j <= rank; j++) {
                    all += trial[j] * sums.at(row, held[j]);
                }
                if (all != 0) {
                    return row;
                }
            }
            return NONE;
        }

        /** All ahead of the first that hangs together are held, so the tries are in the order of what was taken. */
        private void keepTimes() {
            Arrays.fill(times, 0);
            long part = 0;
            for (int j = 0; j <= rank; j++) {
                part = gcd(part, trial[j]);
            }
            long divisor = trial[rank] < 0 ? -part : part;
            for (int j = 0; j <= rank && j < times.length && divisor != 0; j++) {
                times[j] = trial[j] / divisor;
            }
        }

        /** Whether there is a RELATION, of numbers that ints can hold. */
        boolean canTell() {
            for (int k = 0; k < times.length; k++) {
                if (related && times[k] != (int) times[k]) {
                    return false;
                }
            }
            return related;
        }

        int timesOf(int i) {
            return i >= 0 && i < times.length ? (int) times[i] : 0;
        }
    }

    /** The whole points in one TET. */
    private static final class Inside {
        /** For each CORNER four numbers: those of X, Y, Z and 1, added SIX of the TET with a point in its place. */
        private final int[] planes = new int[16];
        private final int[] least = new int[3];
        private final int[] greatest = new int[3];
        private int low;
        private int high;
        private int six;
        /** X, Y, Z of the FAIREST, and the greatest SIX there. */
        final int[] best = new int[4];

        void load(int[] corners, int from) {
            int turn = Bag.turnOf(corners, from);
            six = Math.abs(turn);
            for (int axis = 0; axis < 3; axis++) {
                least[axis] = REACH;
                greatest[axis] = -REACH;
                for (int corner = 0; corner < 4; corner++) {
                    least[axis] = Math.min(least[axis], corners[from + corner * 3 + axis]);
                    greatest[axis] = Math.max(greatest[axis], corners[from + corner * 3 + axis]);
                }
            }
            for (int corner = 0; corner < 4; corner++) {
                loadPlane(corners, from, corner);
            }
        }

        private void loadPlane(int[] corners, int from, int corner) {
            int a = from + (corner == 0 ? 3 : 0);
            int b = from + (corner <= 1 ? 6 : 3);
            int c = from + (corner <= 2 ? 9 : 6);
            int px = corners[b] - corners[a];
            int py = corners[b + 1] - corners[a + 1];
            int pz = corners[b + 2] - corners[a + 2];
            int qx = corners[c] - corners[a];
            int qy = corners[c + 1] - corners[a + 1];
            int qz = corners[c + 2] - corners[a + 2];
            int at = corner * 4;
            planes[at] = py * qz - pz * qy;
            planes[at + 1] = pz * qx - px * qz;
            planes[at + 2] = px * qy - py * qx;
            planes[at + 3] = -planes[at] * corners[a] - planes[at + 1] * corners[a + 1] - planes[at + 2] * corners[a + 2];
            int own = from + corner * 3;
            if (height(corner, corners[own], corners[own + 1], corners[own + 2]) < 0) {
                for (int k = at; k < at + 4; k++) {
                    planes[k] = -planes[k];
                }
            }
        }

        /** SIX of the TET with the point in place of the CORNER, below 0 beyond the face across from it. */
        private int height(int corner, int x, int y, int z) {
            int at = corner * 4;
            return planes[at] * x + planes[at + 1] * y + planes[at + 2] * z + planes[at + 3];
        }

        /** 0 beyond, else of how many TETS it would be the point if it were CUT there. */
        int place(int x, int y, int z) {
            int parts = 0;
            for (int corner = 0; corner < 4; corner++) {
                int part = height(corner, x, y, z);
                if (part < 0) {
                    return 0;
                }
                parts += part > 0 ? 1 : 0;
            }
            return parts;
        }

        /** Which Z are within at X and Y: from low to high. */
        private void span(int x, int y) {
            low = least[2];
            high = greatest[2];
            for (int at = 0; at < 16; at += 4) {
                int rest = planes[at] * x + planes[at + 1] * y + planes[at + 3];
                int slope = planes[at + 2];
                if (slope > 0) {
                    low = Math.max(low, -Math.floorDiv(rest, slope));
                } else if (slope < 0) {
                    high = Math.min(high, Math.floorDiv(rest, -slope));
                } else if (rest < 0) {
                    high = low - 1;
                }
            }
        }

        int countPoints() {
            int found = 0;
            for (int x = least[0]; x <= greatest[0]; x++) {
                for (int y = least[1]; y <= greatest[1]; y++) {
                    span(x, y);
                    found += Math.max(0, high - low + 1);
                }
            }
            return found;
        }

        /** False if there is no POINT but CORNERS: only at these a piece is as great as the whole. */
        boolean findFairest() {
            best[3] = six;
            for (int x = least[0]; x <= greatest[0]; x++) {
                for (int y = least[1]; y <= greatest[1]; y++) {
                    span(x, y);
                    for (int z = low; z <= high; z++) {
                        tryPoint(x, y, z);
                    }
                }
            }
            return best[3] < six;
        }

        private void tryPoint(int x, int y, int z) {
            int worst = 0;
            for (int corner = 0; corner < 4; corner++) {
                worst = Math.max(worst, height(corner, x, y, z));
            }
            if (worst < best[3]) {
                best[0] = x;
                best[1] = y;
                best[2] = z;
                best[3] = worst;
            }
        }
    }

    /** The pieces of one TET that are still too great. */
    private static final class Shreds {
        static final int MOST_CUTS = 40;
        static final int MOST_PIECES = 1 + 3 * MOST_CUTS;
        static final int ROOM = MOST_CUTS + 4;

        private final Inside inside;
        private final int[] stack = new int[ROOM * Bag.WIDTH];
        private final int[] whole = new int[Bag.WIDTH];
        private int size;

        Shreds(Inside inside) {
            this.inside = inside;
        }

        int countCuts(int[] corners, int from, int six) {
            // So many pieces, none of them greater than asked, can't fill it.
            if ((long) MOST_PIECES * six < Math.abs(Bag.turnOf(corners, from))) {
                return NONE;
            }
            size = 0;
            System.arraycopy(corners, from, stack, 0, Bag.WIDTH);
            keepIfGreat(six);
            int cuts = 0;
            for (int k = 0; k <= MOST_CUTS && size > 0; k++) {
                // Each that waits takes a CUT of its own.
                if (cuts + size > MOST_CUTS || !cutLast(six)) {
                    return NONE;
                }
                cuts++;
            }
            return size == 0 ? cuts : NONE;
        }

        /** Keeps the piece that stands behind the last one, if it is still too great. */
        private void keepIfGreat(int six) {
            if (Math.abs(Bag.turnOf(stack, size * Bag.WIDTH)) > six) {
                size++;
            }
        }

        private boolean cutLast(int six) {
            inside.load(stack, (size - 1) * Bag.WIDTH);
            if (!inside.findFairest()) {
                return false;
            }
            size--;
            System.arraycopy(stack, size * Bag.WIDTH, whole, 0, Bag.WIDTH);
            for (int corner = 0; corner < 4 && size < ROOM; corner++) {
                System.arraycopy(whole, 0, stack, size * Bag.WIDTH, Bag.WIDTH);
                System.arraycopy(inside.best, 0, stack, size * Bag.WIDTH + corner * 3, 3);
                keepIfGreat(six);
            }
            return true;
        }
    }

    /** The PLAN: boxes cut in stairs. */
    private static final class Stairs {
        static final int MOST_SIDE = 24;
        static final int MOST_VOLUME = 1728;
        static final int BOXES = MOST_SIDE * MOST_SIDE;
        static final int LABELS = MOST_SIDE + 1;
        /** By an axis a CUBE goes at most 23 back or on. */
        static final int WAYS = 2 * MOST_SIDE - 1;

        /** NONE without a PLAN. */
        int steps = NONE;
        /** Of each STEP I, J, N in one number that rises with them. */
        private final int[] labels = new int[BOXES];
        final int[] sides = new int[3];
        final int[] spot = new int[3];
        private final int[] start = new int[3];
        /** For each box, told by its first two sides, the box ahead of it, NONE if it was not reached. */
        private final int[] ahead = new int[BOXES];
        private final int[] queue = new int[BOXES];
        /** For each box the STEP that reached it. */
        private final int[] reached = new int[BOXES];
        private int queued;
        private final long[] seen = new long[WAYS * WAYS * WAYS / 64 + 1];

        static boolean areSides(int a, int b, int c) {
            return isSide(a) && isSide(b) && isSide(c);
        }

        private static boolean isSide(int side) {
            return side >= 1 && side <= MOST_SIDE;
        }

        private static int boxOf(int a, int b) {
            return (a - 1) * MOST_SIDE + b - 1;
        }

        /**
         * Breadth first, STEPS by I, J, N: boxes come to the queue in the order of their first shortest ways,
         * so the way on which a box is first reached is the first of the shortest.
         */
        boolean search(int a, int b, int c, int d, int e) {
            int goal = boxOf(d, e);
            int volume = a * b * c;
            Arrays.fill(ahead, NONE);
            ahead[boxOf(a, b)] = boxOf(a, b);
            queue[0] = boxOf(a, b);
            queued = 1;
            for (int k = 0; k < queued && k < BOXES && ahead[goal] == NONE; k++) {
                setSides(queue[k], volume);
                for (int axes = 0; axes < 9; axes++) {
                    reachBy(queue[k], axes / 3, axes % 3);
                }
            }
            return ahead[goal] != NONE;
        }

        private void setSides(int box, int volume) {
            sides[0] = box / MOST_SIDE + 1;
            sides[1] = box % MOST_SIDE + 1;
            int floor = sides[0] * sides[1];
            sides[2] = floor > 0 ? volume / floor : 0;
        }

        private void reachBy(int box, int i, int j) {
            for (int n = 2; n <= MOST_SIDE && i != j; n++) {
                if (sides[i] % n == 0 && sides[j] % (n - 1) == 0 && sides[j] / (n - 1) * n <= MOST_SIDE) {
                    int first = sideThen(0, i, j, n);
                    int second = sideThen(1, i, j, n);
                    int next = boxOf(first, second);
                    if (ahead[next] == NONE && queued < BOXES) {
                        ahead[next] = box;
                        reached[next] = (i * 3 + j) * LABELS + n;
                        queue[queued] = next;
                        queued++;
                    }
                }
            }
        }

        private int sideThen(int axis, int i, int j, int n) {
            if (axis == i) {
                return sides[i] / n * (n - 1);
            }
            return axis == j ? sides[j] / (n - 1) * n : sides[axis];
        }

        /** Makes what search() found the PLAN. */
        void keep(int a, int b, int c, int d, int e) {
            int first = boxOf(a, b);
            int length = 0;
            int box = boxOf(d, e);
            for (int k = 0; k < BOXES && box >= 0 && box != first; k++) {
                queue[k] = reached[box];
                length++;
                box = ahead[box];
            }
            for (int k = 0; k < length; k++) {
                labels[k] = queue[length - 1 - k];
            }
            start[0] = a;
            start[1] = b;
            start[2] = c;
            steps = length;
        }

        /** I, J or N of a STEP. */
        int labelOf(int step, int what) {
            int axes = labels[step] / LABELS;
            if (what == 2) {
                return labels[step] % LABELS;
            }
            return what == 0 ? axes / 3 : axes % 3;
        }

        boolean reaches(int i) {
            return i >= 0 && i <= steps;
        }

        boolean hasCube(int x, int y, int z) {
            return x >= 0 && x < start[0] && y >= 0 && y < start[1] && z >= 0 && z < start[2];
        }

        /** Where a CUBE lies behind so many STEPS comes to spot, the sides of the box then to sides. */
        void carry(int x, int y, int z, int i) {
            System.arraycopy(start, 0, sides, 0, 3);
            spot[0] = x;
            spot[1] = y;
            spot[2] = z;
            for (int k = 0; k < i && k < steps; k++) {
                takeStep(k);
            }
        }

        /** One STEP of the box and of the CUBE at spot. */
        private void takeStep(int k) {
            int i = labelOf(k, 0);
            int j = labelOf(k, 1);
            int n = labelOf(k, 2);
            int partI = n > 0 ? sides[i] / n : 0;
            int partJ = n > 1 ? sides[j] / (n - 1) : 0;
            if (partI == 0 || partJ == 0) {
                return;
            }
            if (spot[i] / partI + spot[j] / partJ >= n - 1) {
                spot[i] -= partI;
                spot[j] += partJ;
            }
            sides[i] -= partI;
            sides[j] += partJ;
        }

        int countPieces(int i) {
            Arrays.fill(seen, 0);
            int found = 0;
            for (int x = 0; x < start[0]; x++) {
                for (int y = 0; y < start[1]; y++) {
                    for (int z = 0; z < start[2]; z++) {
                        carry(x, y, z, i);
                        found += isNewWay(spot[0] - x, spot[1] - y, spot[2] - z) ? 1 : 0;
                    }
                }
            }
            return found;
        }

        private boolean isNewWay(int x, int y, int z) {
            int middle = MOST_SIDE - 1;
            int way = ((x + middle) * WAYS + y + middle) * WAYS + z + middle;
            int word = way >> 6;
            if (word < 0 || word >= seen.length || (seen[word] >> (way & 63) & 1) == 1) {
                return false;
            }
            seen[word] |= 1L << (way & 63);
            return true;
        }
    }
}
