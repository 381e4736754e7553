import java.io.IOException;
import java.nio.file.Files;
import java.nio.file.Path;
import java.util.NoSuchElementException;

/** What the tests by hand share: calls with the answers that are due, TEXTS, TETS, and the document's own words. */
public abstract class Checks {
    protected static final int NONE = -1;
    protected static final int HIDDEN = -1000000;
    protected static final int LEAST = Integer.MIN_VALUE;
    protected static final int GREATEST = Integer.MAX_VALUE;
    /** Three right angles at one CORNER, SIX 1. */
    protected static final String RIGHT = "t0:0,0,0/1,0,0/0,1,0/0,0,1";
    /** All edges and angles alike, SIX 2. */
    protected static final String EVEN_SIDED = "t1:0,0,0/1,1,0/1,0,1/0,1,1";
    /** Three right angles, sides 2, 3, 5, SIX 30: its other angles are by the prime 19 alone. */
    protected static final String BY_19 = "t0:0,0,0/2,0,0/0,3,0/0,0,5";
    /** Three right angles, sides of 4, SIX 64: a point within, points on faces and EDGES. */
    protected static final String OF_4 = "t0:0,0,0/4,0,0/0,4,0/0,0,4";

    private static final Path DOCUMENT = Path.of("../shared/DOC.md");
    private static String document;
    private static String about = "";
    private static int checks;
    private static int wrong;

    /** What the checks that follow are about. */
    protected static void about(String words) {
        about = words;
    }

    /** The checks that follow are about this sentence, or part of one, of the document. */
    protected static void says(String words) {
        about = words;
        due("the document has these words", document().contains(flat(words)), true);
    }

    private static String document() {
        if (document == null) {
            try {
                document = flat(Files.readString(DOCUMENT));
            } catch (IOException e) {
                throw new IllegalStateException("no " + DOCUMENT, e);
            }
        }
        return document;
    }

    private static String flat(String words) {
        return words.replaceAll("\\s+", " ").strip();
    }

    protected static void due(String call, long got, long want) {
        checks++;
        if (got != want) {
            wrong++;
            System.out.println(about + ": " + call + " answered " + got + ", due is " + want);
        }
    }

    protected static void due(String call, boolean got, boolean want) {
        due(call, got ? 1 : 0, want ? 1 : 0);
    }

    protected static void due(String call, String got, String want) {
        checks++;
        if (!got.equals(want)) {
            wrong++;
            System.out.println(about + ": " + call + " answered " + got + ", due is " + want);
        }
    }

    protected static void close(String name) {
        System.out.println(name + ": " + checks + " checks, " + wrong + " wrong");
        if (wrong != 0) {
            System.exit(1);
        }
    }

    /** Feeds a text by twenty bytes a call; the answer is that of the last call. */
    protected static int write(ScissorsTable table, String text) {
        int answer = NONE;
        for (int at = 0; at < text.length(); at += 20) {
            int[] words = new int[5];
            for (int k = 0; k < 20 && at + k < text.length(); k++) {
                words[k / 4] |= (text.charAt(at + k) & 255) << 24 - 8 * (k % 4);
            }
            answer = table.feed(words[0], words[1], words[2], words[3], words[4]);
        }
        return answer;
    }

    protected static ScissorsTable written(String text) {
        ScissorsTable table = new ScissorsTable();
        write(table, text);
        return table;
    }

    protected static ScissorsTable told(String text) {
        ScissorsTable table = written(text);
        due("text() of " + text, table.text() >= 0, true);
        return table;
    }

    protected static void faultIs(String text, int want) {
        ScissorsTable table = written(text);
        due("fault() of \"" + text + "\"", table.fault(), want);
        due("text() of \"" + text + "\" refused", table.text() == NONE, want != NONE);
    }

    protected static void leavesOut(String text, int want, int tets) {
        ScissorsTable table = written(text);
        due("text() of " + text, table.text(), want);
        due("count(0) of " + text, table.count(0), tets);
    }

    protected static void cornersAre(ScissorsTable table, int tet, int... want) {
        for (int k = 0; k < 12; k++) {
            due("corner(" + tet + ", " + k / 3 + ", " + k % 3 + ")", table.corner(tet, k / 3, k % 3), want[k]);
        }
    }

    protected static boolean tetThrows(ScissorsTable table, int tet, int what) {
        try {
            table.tet(tet, what);
            return false;
        } catch (NoSuchElementException e) {
            return true;
        }
    }

    protected static void edgeIs(ScissorsTable table, int tet, int edge, int... want) {
        for (int what = 0; what < 6; what++) {
            due("edge(" + tet + ", " + edge + ", " + what + ")", table.edge(tet, edge, what), want[what]);
        }
    }

    /** P, E, P, E ..: all the primes of an EDGE. */
    protected static void primesAre(ScissorsTable table, int tet, int edge, int... want) {
        due("edge(" + tet + ", " + edge + ", 5)", table.edge(tet, edge, 5), want.length / 2);
        for (int k = 0; k < want.length; k++) {
            due("prime(" + tet + ", " + edge + ", " + k / 2 + ", " + k % 2 + ")", table.prime(tet, edge, k / 2, k % 2), want[k]);
        }
        due("one more prime", table.prime(tet, edge, want.length / 2, 0), HIDDEN);
    }

    protected static void termIs(ScissorsTable table, int solid, int i, int m, int p, int much) {
        due("term(" + solid + ", " + i + ", 0)", table.term(solid, i, 0), m);
        due("term(" + solid + ", " + i + ", 1)", table.term(solid, i, 1), p);
        due("term(" + solid + ", " + i + ", 2)", table.term(solid, i, 2), much);
    }

    protected static void fairestIs(ScissorsTable table, int tet, int... want) {
        for (int what = 0; what < 4; what++) {
            due("fairest(" + tet + ", " + what + ")", table.fairest(tet, what), want[what]);
        }
    }

    protected static void stepIs(ScissorsTable table, int i, int axis, int other, int n) {
        due("step(" + i + ", 0)", table.step(i, 0), axis);
        due("step(" + i + ", 1)", table.step(i, 1), other);
        due("step(" + i + ", 2)", table.step(i, 2), n);
    }

    /** All that a refused call must leave as it is, of tables with few TETS (some 200 calls). */
    protected static String state(ScissorsTable table) {
        StringBuilder all = new StringBuilder();
        for (int what = 0; what < 4; what++) {
            all.append(table.count(what)).append(' ');
        }
        all.append(table.fault()).append(' ').append(table.rank()).append(' ');
        for (int tet = 0; tet < table.count(0); tet++) {
            all.append("| ").append(table.tet(tet, 0)).append(' ').append(table.tet(tet, 1)).append(' ');
            for (int k = 0; k < 12; k++) {
                all.append(table.corner(tet, k / 3, k % 3)).append(' ');
            }
        }
        for (int k = 0; k < 6; k++) {
            all.append("| ").append(table.relation(k)).append(' ').append(table.side(k, 0)).append(' ').append(table.step(k, 2)).append(' ');
        }
        for (int solid = 0; solid < 4; solid++) {
            all.append("| ").append(table.solid(solid, 0)).append(' ').append(table.solid(solid, 3)).append(' ');
            for (int i = 0; i < table.solid(solid, 3); i++) {
                all.append(table.term(solid, i, 2)).append(' ');
            }
        }
        return all.toString();
    }

    /** A call on a table. */
    protected interface Call {
        long on(ScissorsTable table);
    }

    /** A call that must answer so, and leave all as it was. */
    protected static void refused(ScissorsTable table, String name, Call call, long want) {
        String before = state(table);
        due(name, call.on(table), want);
        due("what there was ahead of " + name, state(table), before);
    }

    /** So many TETS: the first OF_4 in SOLID 0, all others small ones in SOLID 1. */
    protected static String tets(int count) {
        StringBuilder text = new StringBuilder(OF_4);
        int left = count - 1;
        for (; left >= 6; left -= 6) {
            text.append(";b1:0,0,0/1,1,1");
        }
        for (; left > 0; left--) {
            text.append(";t1").append(RIGHT.substring(2));
        }
        return text.toString();
    }
}
