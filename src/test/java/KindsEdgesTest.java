/**
 * The edges of BOXES and the KINDS: each CELL that a KIND takes, MISSING and OFF, and what was done ahead of it;
 * one HEAD told several times; two HEADS over one CELL.
 */
public final class KindsEdgesTest extends Probe {
    private static final int MISSING = 1;
    private static final int OFF = 2;
    private static final int P = 0;
    private static final int Q = 1;
    private static final int R = 2;

    /**
     * LOOPS 0, 1, 5 of SINGLES (1.5 2.5 3.5 4.5; 3 2 1 0; -1 4 -0.9 3.9), 2, 3, 4, 6 of DOUBLES
     * (0 1/3 2/3 1; 1 1.1 1.2 1.3; -1 4 -0.9 3.9; 1e12 -1e12 NaN 2.9999), 8 and 9 of each, without CELLS; 7 is not there.
     */
    private static final String ROWS = lines("loop 0,4", "loop 1,4", "drum 2,4", "drum 3,4", "drum 4,4", "loop 5,4", "drum 6,4", "loop 8,0", "drum 9,0",
            "head 5,0,0", "while place(5)<4", "put 5=place(5)+1.5", "end", "head 5,1,0", "while place(5)<4", "put 5=3-place(5)", "end",
            "head 5,2,0", "while place(5)<4", "put 5=place(5)/3", "end", "head 5,3,0", "while place(5)<4", "put 5=place(5)*0.1+1", "end",
            "head 5,4,0", "put 5=-1", "put 5=4", "put 5=-0.9", "put 5=3.9", "head 5,5,0", "put 5=-1", "put 5=4", "put 5=-0.9", "put 5=3.9",
            "set 9=65536*65536", "set 8=0", "while dial(8)<5", "set 9=dial(9)*dial(9)", "set 8=dial(8)+1", "end",
            "head 5,6,0", "put 5=999999*999999", "put 5=-999999*999999", "put 5=dial(9)-dial(9)", "put 5=2.9999",
            "set 0=0.5", "set 1=-2", "head 5,0,0");

    private static final double[] D2 = {0, 1.0 / 3, 2.0 / 3, 1};
    private static final double[] D3 = {1, 1 * 0.1 + 1, 2 * 0.1 + 1, 3 * 0.1 + 1};

    private static final String[] NAMES = {"TAPE", "LIFT", "MIX", "FADE", "BOUNCE", "LADDER", "ECHO", "GRAIN", "SCATTER", "STAMMER", "SMOOTH",
        "SWELL", "CHASE", "RING", "HALVE", "PICK"};

    /** The LOOP and the PLACE of p, q, r, with which the ACT of each KIND is done; a HEAD that it doesn't tell is over nothing. */
    private static final int[][] READY = {
        {0, 1, 2, 1, 7, 5}, {2, 2, 0, 1, 7, 5}, {2, 1, 0, 2, 7, 5}, {0, 2, 7, 5, 7, 5},
        {0, 0, 1, 3, 2, 1}, {2, 0, 3, 3, 2, 1}, {2, 0, 3, 3, 2, 1}, {0, 0, 1, 50, 3, 0},
        {0, 2, 2, 50, 1, 1}, {0, 1, 7, 5, 7, 5}, {2, 0, 3, 1, 7, 5}, {0, 1, 2, 1, 7, 5},
        {3, 0, 0, 1, 2, 1}, {3, 1, 7, 5, 7, 5}, {0, 1, 2, 1, 7, 5}, {2, 50, 1, 1, 7, 5}};

    public static void main(String[] args) {
        everyKindIsDone();
        tape();
        lift();
        mix();
        fade();
        bounce();
        ladder();
        echo();
        grain();
        scatter();
        stammer();
        smooth();
        swell();
        chase();
        ring();
        halve();
        pick();
        theFirstThatIsMet();
        missingAheadOfOff();
        oneHeadForTwoOfTape();
        oneHeadForSeveralOfBounce();
        oneHeadForSeveralOfLadder();
        oneHeadForSeveralOfEcho();
        oneHeadForTwoOfOthers();
        twoHeadsOverOneCell();
        whatCameIntoTheNextOneAsItIsThere();
        whatIsNotToldIsNotLookedAt();
        finish();
    }

    private static EchoStudio x;
    private static long[][] cells;
    private static long[] dials;
    private static int[] places;

    /** A studio with the rows, and p, q, r (HEADS 0, 1, 2) where the KIND wants them, or where more LINES put them. */
    private static void ready(int kind, String... more) {
        int[] at = READY[kind];
        x = played(6, ROWS + lines("head 0," + at[0] + "," + at[1], "head 1," + at[2] + "," + at[3], "head 2," + at[4] + "," + at[5])
                + String.join("\n", more));
        due("the rows are ready", x.count(2) + x.count(9), 0);
        cells = new long[12][4];
        dials = new long[10];
        places = new int[10];
        for (int n = 0; n < 12; n++) {
            for (int i = 0; i < 4; i++) {
                cells[n][i] = x.cell(n, i);
            }
        }
        for (int h = 0; h < 10; h++) {
            dials[h] = x.dial(h);
            places[h] = x.head(h, 1);
        }
    }

    /** What a CELL will have become. */
    private static void becomes(int n, int i, long bits) {
        cells[n][i] = bits;
    }

    private static void moves(int... by) {
        for (int h = 0; h < by.length; h++) {
            places[h] += by[h];
        }
    }

    private static void act(String what, int kind, int p, int q, int r, int g, int want) {
        String name = NAMES[kind] + ", " + what;
        due(name, x.act(kind, p, q, r, g), want);
        for (int n = 0; n < 12; n++) {
            for (int i = 0; i < 4; i++) {
                due(name + ": CELL " + i + " of LOOP " + n, x.cell(n, i), cells[n][i]);
            }
        }
        for (int h = 0; h < 10; h++) {
            due(name + ": the PLACE of HEAD " + h, x.head(h, 1), places[h]);
            due(name + ": DIAL " + h, x.dial(h), dials[h]);
        }
        due(name + ": ACTS", x.count(4), 1);
        due(name + ": refusals", x.count(5), want == 0 ? 0 : 1);
        due(name + ": the latest", x.count(9), want);
    }

    private static void act(String what, int kind, int g, int want) {
        act(what, kind, 0, 1, 2, g, want);
    }

    /** A row of what is to be SET ahead of a refusal; null for nothing. */
    private record Cell(int n, int i, long bits) {
    }

    /**
     * A CELL that a HEAD takes, in each way in which it can be refused: how p, q and r are moved is the same in all of them.
     * The HEAD is put ahead of its LOOP, behind it, over one without CELLS, over none, and over those of the other sort.
     */
    private static void eachRefusal(int kind, int head, Cell set, int... moved) {
        boolean doubles = READY[kind][2 * head] == 2 || READY[kind][2 * head] == 3;
        int loop = READY[kind][2 * head];
        int place = READY[kind][2 * head + 1];
        refusedAt("ahead of the first", kind, head, loop, -1, OFF, set, moved);
        refusedAt("behind the last", kind, head, loop, 4, OFF, set, moved);
        refusedAt("far behind the last", kind, head, loop, 1000, OFF, set, moved);
        refusedAt("no CELLS", kind, head, doubles ? 9 : 8, 0, OFF, set, moved);
        missingAt(kind, head, doubles, place, set, moved);
    }

    private static void missingAt(int kind, int head, boolean doubles, int place, Cell set, int... moved) {
        refusedAt("no LOOP", kind, head, 7, place, MISSING, set, moved);
        refusedAt("of the other sort", kind, head, doubles ? 5 : 4, place, MISSING, set, moved);
        refusedAt("of the other sort, ahead of the first", kind, head, doubles ? 5 : 4, -1, MISSING, set, moved);
        refusedAt("of the other sort, without CELLS", kind, head, doubles ? 8 : 9, place, MISSING, set, moved);
    }

    private static void refusedAt(String how, int kind, int head, int loop, int place, int want, Cell set, int... moved) {
        ready(kind, "head " + head + "," + loop + "," + place);
        if (set != null) {
            becomes(set.n(), set.i(), set.bits());
        }
        moves(moved);
        act("pqr".charAt(head) + " " + how, kind, 0, want);
    }

    private static void everyKindIsDone() {
        about("each KIND, not refused");
        int[][] moved = {{1, 1, 0}, {-1, 1, 0}, {0, 1, 0}, {1, 0, 0}, {1, -1, 1}, {1, 1, 1}, {1, 1, -1}, {1, 0, 1}, {1, 0, 1}, {0, 0, 0}, {1, 1, 0},
            {1, 1, 0}, {1, 1, 1}, {0, 0, 0}, {1, 1, 0}, {0, -1, 0}};
        Cell[] set = {new Cell(0, 1, bits((float) D2[1])), new Cell(2, 2, bits(2.5)), new Cell(2, 1, bits(D2[1] + 3.5 * 0.5)),
            new Cell(0, 2, bits(1.75f)), new Cell(0, 0, bits((float) D2[1])), new Cell(2, 0, bits(D2[1] * 0.5)),
            new Cell(2, 0, bits(D3[3] + D2[1] * 0.5)), new Cell(0, 0, bits(2f)), new Cell(2, 2, bits(3.5 * 0.5)), new Cell(0, 1, 0),
            new Cell(2, 0, bits((D3[0] + D3[1] * 2 + D3[2]) / 4)), null, new Cell(0, 1, bits((float) (2.5 - D2[1]))),
            new Cell(3, 2, bits(D3[2] * D3[1])), new Cell(0, 1, bits((float) (2.5 / D2[1]))), new Cell(2, 2, bits(D2[2] + 0.5))};
        for (int kind = 0; kind < 16; kind++) {
            ready(kind);
            moves(moved[kind]);
            if (set[kind] != null) {
                becomes(set[kind].n(), set[kind].i(), set[kind].bits());
            }
            if (kind == 4) {
                becomes(1, 3, bits((float) D2[1]));
            } else if (kind == 5) {
                becomes(3, 3, bits(D2[1] * 0.5));
            } else if (kind == 11) {
                dials[0] = bits(0.5 + 2.5 * D2[1]);
            } else if (kind == 12) {
                becomes(3, 0, bits(1 - (double) (float) (2.5 - D2[1])));
            }
            act("done", kind, 0, 0);
        }
    }

    private static void tape() {
        about("S p+ := D q+");
        eachRefusal(0, P, null, 1, 1);
        eachRefusal(0, Q, null, 1, 1);
    }

    private static void lift() {
        about("D p- := S q+");
        eachRefusal(1, P, null, -1, 1);
        eachRefusal(1, Q, null, -1, 1);
    }

    private static void mix() {
        about("D p += S q+ * g");
        eachRefusal(2, P, null, 0, 0);
        eachRefusal(2, Q, null, 0, 1);
    }

    private static void fade() {
        about("S p+ *= g");
        eachRefusal(3, P, null, 1);
    }

    private static void bounce() {
        about("S p+ := S q- := D r+");
        eachRefusal(4, P, new Cell(1, 3, bits((float) D2[1])), 1, -1, 1);
        eachRefusal(4, Q, null, 1, -1, 1);
        eachRefusal(4, R, null, 1, -1, 1);
    }

    private static void ladder() {
        about("D p+ := D q+ := D r+ * g");
        eachRefusal(5, P, new Cell(3, 3, bits(D2[1] * 0.5)), 1, 1, 1);
        eachRefusal(5, Q, null, 1, 1, 1);
        eachRefusal(5, R, null, 1, 1, 1);
    }

    private static void echo() {
        about("D p+ := D q+ + D r- * g");
        eachRefusal(6, P, null, 1, 1, -1);
        eachRefusal(6, Q, null, 1, 1, 0);
        eachRefusal(6, R, null, 1, 1, -1);
    }

    private static void grain() {
        about("S p+ := S q[THE WHOLE of D r+]");
        eachRefusal(7, P, null, 1, 0, 1);
        eachRefusal(7, R, null, 1, 0, 1);
        missingAt(7, Q, false, 0, null, 1, 0, 1);
        refusedAt("no CELLS", 7, Q, 8, 0, OFF, null, 1, 0, 1);
        refusedAt("[-1]", 7, R, 4, 0, OFF, null, 1, 0, 1);
        refusedAt("[4]", 7, R, 4, 1, OFF, null, 1, 0, 1);
        refusedAt("[beyond the greatest int]", 7, R, 6, 0, OFF, null, 1, 0, 1);
        refusedAt("[beyond the least int]", 7, R, 6, 1, OFF, null, 1, 0, 1);
        refusedAt("[-0.9]", 7, R, 4, 2, 0, new Cell(0, 0, bits(3f)), 1, 0, 1);
        refusedAt("[3.9]", 7, R, 4, 3, 0, new Cell(0, 0, 0), 1, 0, 1);
        refusedAt("[NaN]", 7, R, 6, 2, 0, new Cell(0, 0, bits(3f)), 1, 0, 1);
        refusedAt("[2.9999]", 7, R, 6, 3, 0, new Cell(0, 0, bits(1f)), 1, 0, 1);
    }

    private static void scatter() {
        about("D q[THE WHOLE of S r+] := S p+ * g");
        eachRefusal(8, R, null, 0, 0, 1);
        eachRefusal(8, P, null, 1, 0, 1);
        missingAt(8, Q, true, 0, null, 1, 0, 1);
        refusedAt("no CELLS", 8, Q, 9, 0, OFF, null, 1, 0, 1);
        refusedAt("[-1]", 8, R, 5, 0, OFF, null, 1, 0, 1);
        refusedAt("[4]", 8, R, 5, 1, OFF, null, 1, 0, 1);
        refusedAt("[-0.9]", 8, R, 5, 2, 0, new Cell(2, 0, bits(1.75)), 1, 0, 1);
        refusedAt("[3.9]", 8, R, 5, 3, 0, new Cell(2, 3, bits(1.75)), 1, 0, 1);
    }

    private static void stammer() {
        about("S p := S +p - S p-");
        missingAt(9, P, false, 1, null, 1);
        refusedAt("with nothing behind the last", 9, P, 0, 3, OFF, null, 1);
        refusedAt("behind the last", 9, P, 0, 4, OFF, null, 1);
        refusedAt("two ahead of the first", 9, P, 0, -2, OFF, null, 1);
        refusedAt("ahead of the first: SET there", 9, P, 0, -1, OFF, null, 0);
        refusedAt("no CELLS", 9, P, 8, 0, OFF, null, 1);
        refusedAt("no CELLS, ahead of them", 9, P, 8, -1, OFF, null, 1);
        refusedAt("at the first", 9, P, 0, 0, 0, new Cell(0, 0, 0), 0);
        refusedAt("at the last but one", 9, P, 0, 2, 0, new Cell(0, 2, 0), 0);
    }

    private static void smooth() {
        about("D p+ := (D q[its PLACE - 1] + D q * 2 + D +q) / 4");
        eachRefusal(10, P, null, 1, 1);
        missingAt(10, Q, true, 1, null, 1, 0);
        refusedAt("at -1", 10, Q, 3, -1, OFF, null, 1, 0);
        refusedAt("at the first: [-1]", 10, Q, 3, 0, OFF, null, 1, 0);
        refusedAt("at the last: +q", 10, Q, 3, 3, OFF, null, 1, 1);
        refusedAt("behind the last: q", 10, Q, 3, 4, OFF, null, 1, 0);
        refusedAt("two behind the last: [4]", 10, Q, 3, 5, OFF, null, 1, 0);
        refusedAt("no CELLS", 10, Q, 9, 1, OFF, null, 1, 0);
        refusedAt("at the last but one", 10, Q, 3, 2, 0, new Cell(2, 0, bits((D3[1] + D3[2] * 2 + D3[3]) / 4)), 1, 1);
    }

    private static void swell() {
        about("g += S p+ * D q+");
        eachRefusal(11, P, null, 1, 0);
        eachRefusal(11, Q, null, 1, 1);
    }

    private static void chase() {
        about("D p+ -= S q+ -= D r+");
        eachRefusal(12, P, null, 1, 0, 0);
        eachRefusal(12, Q, null, 1, 1, 0);
        eachRefusal(12, R, null, 1, 1, 1);
    }

    private static void ring() {
        about("D +p *= D -p");
        missingAt(13, P, true, 1, null, 1);
        refusedAt("at the last", 13, P, 3, 3, OFF, null, 1);
        refusedAt("behind the last", 13, P, 3, 4, OFF, null, 1);
        refusedAt("ahead of the first: -p", 13, P, 3, -1, OFF, null, 0);
        refusedAt("two ahead of the first: +p", 13, P, 3, -2, OFF, null, 1);
        refusedAt("no CELLS", 13, P, 9, -1, OFF, null, 1);
        refusedAt("at the first", 13, P, 3, 0, 0, new Cell(3, 1, bits(D3[1] * D3[0])), 0);
        refusedAt("at the last but one", 13, P, 3, 2, 0, new Cell(3, 3, bits(D3[3] * D3[2])), 0);
    }

    private static void halve() {
        about("S p+ /= D q+");
        eachRefusal(14, P, null, 1, 0);
        eachRefusal(14, Q, null, 1, 1);
        refusedAt("a zero is no refusal", 14, Q, 2, 0, 0, new Cell(0, 1, bits(Float.POSITIVE_INFINITY)), 1, 1);
    }

    private static void pick() {
        about("D p[THE WHOLE of S q-] += g");
        eachRefusal(15, Q, null, 0, -1);
        missingAt(15, P, true, 0, null, 0, -1);
        refusedAt("no CELLS", 15, P, 9, 0, OFF, null, 0, -1);
        refusedAt("[-1]", 15, Q, 5, 0, OFF, null, 0, -1);
        refusedAt("[4]", 15, Q, 5, 1, OFF, null, 0, -1);
        refusedAt("[-0.9]", 15, Q, 5, 2, 0, new Cell(2, 0, bits(0.5)), 0, -1);
        refusedAt("[3.9]", 15, Q, 5, 3, 0, new Cell(2, 3, bits(1.5)), 0, -1);
    }

    private static void firstMet(int kind, int want, int dp, int dq, int dr, String... heads) {
        ready(kind, heads);
        moves(dp, dq, dr);
        act("two would be refused", kind, 0, want);
    }

    private static void theFirstThatIsMet() {
        about("the first refusal that is met ends the ACT");
        firstMet(0, OFF, 1, 1, 0, "head 0,7,0", "head 1,2,4");
        firstMet(0, MISSING, 1, 1, 0, "head 0,0,4", "head 1,7,0");
        firstMet(1, OFF, -1, 1, 0, "head 0,7,0", "head 1,0,4");
        firstMet(2, OFF, 0, 0, 0, "head 0,2,4", "head 1,7,0");
        firstMet(4, OFF, 1, -1, 1, "head 0,7,0", "head 1,7,0", "head 2,2,4");
        firstMet(4, OFF, 1, -1, 1, "head 0,7,0", "head 1,1,4");
        firstMet(5, OFF, 1, 1, 1, "head 0,7,0", "head 1,7,0", "head 2,2,4");
        firstMet(5, OFF, 1, 1, 1, "head 0,7,0", "head 1,3,4");
        firstMet(6, OFF, 1, 1, 0, "head 0,7,0", "head 1,3,4", "head 2,7,0");
        firstMet(6, OFF, 1, 1, -1, "head 0,7,0", "head 2,2,4");
        firstMet(7, OFF, 1, 0, 1, "head 0,7,0", "head 1,7,0", "head 2,3,4");
        firstMet(7, OFF, 1, 0, 1, "head 0,7,0", "head 1,8,0");
        firstMet(8, OFF, 0, 0, 1, "head 0,7,0", "head 1,7,0", "head 2,1,4");
        firstMet(8, OFF, 1, 0, 1, "head 0,0,4", "head 1,7,0");
        firstMet(10, OFF, 1, 0, 0, "head 0,7,0", "head 1,3,0");
        firstMet(11, OFF, 1, 0, 0, "head 0,0,4", "head 1,7,0");
        firstMet(12, OFF, 1, 0, 0, "head 0,3,4", "head 1,7,0", "head 2,7,0");
        firstMet(12, OFF, 1, 1, 0, "head 1,0,4", "head 2,7,0");
        firstMet(14, OFF, 1, 0, 0, "head 0,0,4", "head 1,7,0");
        firstMet(15, OFF, 0, -1, 0, "head 0,7,0", "head 1,1,4");
    }

    private static void missingAheadOfOff() {
        about("MISSING, and no such CELL besides");
        for (int kind : new int[] {0, 3, 9}) {
            ready(kind, "head 0,7,99", "head 1,7,-99");
            moves(1, kind == 0 ? 1 : 0);
            act("MISSING", kind, 0, MISSING);
        }
    }

    private static void oneHeadForTwoOfTape() {
        about("one HEAD for p and q");
        ready(0, "head 0,0,1");
        moves(2);
        act("of SINGLES: q is MISSING", 0, 0, 0, 0, 0, MISSING);
        ready(0, "head 0,2,1");
        moves(2);
        act("of DOUBLES: p is MISSING when it is SET", 0, 0, 0, 0, 0, MISSING);
        ready(0, "head 0,2,3");
        moves(2);
        act("of DOUBLES: q is behind the last", 0, 0, 0, 0, 0, OFF);
        ready(1, "head 0,2,1");
        moves(0);
        act("back, then on", 1, 0, 0, 0, 0, MISSING);
        ready(2, "head 0,2,1");
        moves(1);
        act("p is TOLD, q is MISSING", 2, 0, 0, 0, 0, MISSING);
        ready(2, "head 0,0,1");
        moves(0);
        act("p is MISSING", 2, 0, 0, 0, 0, MISSING);
        ready(11, "head 0,0,1");
        moves(2);
        act("q is MISSING", 11, 0, 0, 0, 0, MISSING);
        ready(14, "head 0,0,1");
        moves(2);
        act("q is MISSING", 14, 0, 0, 0, 0, MISSING);
        ready(15, "head 0,1,1");
        moves(-1);
        act("p is MISSING", 15, 0, 0, 0, 0, MISSING);
    }

    private static void oneHeadForSeveralOfBounce() {
        about("one HEAD for several of BOUNCE");
        ready(4, "head 0,0,1");
        becomes(0, 1, bits((float) D2[1]));
        becomes(0, 2, bits((float) D2[1]));
        moves(0, 0, 1);
        act("p and q: on, then back", 4, 0, 0, 2, 0, 0);
        ready(4, "head 0,0,1");
        moves(2, -1, 0);
        act("p and r: r is MISSING", 4, 0, 1, 0, 0, MISSING);
        ready(4, "head 1,2,1");
        moves(1, 0, 0);
        act("q and r: q is MISSING when it is SET", 4, 0, 1, 1, 0, MISSING);
        ready(4, "head 0,2,1");
        moves(1, 0, 0);
        act("all three: on, back, on", 4, 0, 0, 0, 0, MISSING);
    }

    private static void oneHeadForSeveralOfLadder() {
        about("one HEAD for several of LADDER");
        ready(5, "head 0,3,0");
        becomes(3, 0, bits(D3[2] * 0.5));
        becomes(3, 1, bits(D3[2] * 0.5));
        moves(3);
        act("all three", 5, 0, 0, 0, 0, 0);
        ready(5, "head 0,3,1");
        becomes(3, 1, bits(D3[3] * 0.5));
        becomes(3, 2, bits(D3[3] * 0.5));
        moves(3);
        act("all three, to the last CELL", 5, 0, 0, 0, 0, 0);
        ready(5, "head 0,3,2");
        moves(3);
        act("all three, r behind the last", 5, 0, 0, 0, 0, OFF);
        ready(5, "head 0,3,-1");
        becomes(3, 0, bits(D3[1] * 0.5));
        moves(3);
        act("all three, p ahead of the first: q is SET", 5, 0, 0, 0, 0, OFF);
        ready(5, "head 0,3,0");
        becomes(3, 0, bits(D2[1] * 0.5));
        becomes(3, 1, bits(D2[1] * 0.5));
        moves(2, 0, 1);
        act("p and q", 5, 0, 0, 2, 0, 0);
        ready(5, "head 1,3,0");
        becomes(3, 0, bits(D3[1] * 0.5));
        becomes(2, 0, bits(D3[1] * 0.5));
        moves(1, 2, 0);
        act("q and r", 5, 0, 1, 1, 0, 0);
        ready(5, "head 0,3,0", "head 1,2,3");
        becomes(2, 3, bits(D3[1] * 0.5));
        becomes(3, 0, bits(D3[1] * 0.5));
        moves(2, 1, 0);
        act("p and r", 5, 0, 1, 0, 0, 0);
    }

    private static void oneHeadForSeveralOfEcho() {
        about("one HEAD for several of ECHO");
        ready(6, "head 0,3,0");
        becomes(3, 0, bits(D3[1] + D3[2] * 0.5));
        moves(1);
        act("all three: on, on, back", 6, 0, 0, 0, 0, 0);
        ready(6, "head 0,3,2");
        moves(1);
        act("all three, r behind the last", 6, 0, 0, 0, 0, OFF);
        ready(6, "head 0,3,3");
        moves(2);
        act("all three, q behind the last", 6, 0, 0, 0, 0, OFF);
        ready(6, "head 0,3,0", "head 1,2,1");
        becomes(3, 0, bits(D2[1] + D3[1] * 0.5));
        moves(0, 1, 0);
        act("p and r: on, then back", 6, 0, 1, 0, 0, 0);
        ready(6, "head 1,3,1");
        becomes(2, 0, bits(D3[1] + D3[2] * 0.5));
        moves(1, 0, 0);
        act("q and r: on, then back", 6, 0, 1, 1, 0, 0);
        ready(6, "head 0,3,0");
        becomes(3, 0, bits(D3[1] + D2[1] * 0.5));
        moves(2, 0, -1);
        act("p and q", 6, 0, 0, 2, 0, 0);
    }

    private static void oneHeadForTwoOfOthers() {
        about("one HEAD for two of GRAIN, SCATTER, SMOOTH, CHASE");
        ready(7, "head 0,0,0");
        becomes(0, 0, bits(2.5f));
        moves(1, 0, 1);
        act("p and q: [1] of p's LOOP", 7, 0, 0, 2, 0, 0);
        ready(7, "head 0,0,0");
        moves(2, 0, 0);
        act("p and r: r is MISSING", 7, 0, 1, 0, 0, MISSING);
        ready(7, "head 1,3,0");
        moves(1, 1, 0);
        act("q and r: q is MISSING", 7, 0, 1, 1, 0, MISSING);
        ready(8, "head 0,1,0");
        becomes(2, 3, bits(2.0 * -2));
        moves(2, 0, 0);
        act("p and r: r's is the PLACE, then p's", 8, 0, 1, 0, 1, 0);
        ready(8, "head 0,1,3");
        moves(2, 0, 0);
        act("p and r: p is behind the last", 8, 0, 1, 0, 1, OFF);
        ready(10, "head 0,3,1");
        becomes(3, 1, bits((D3[1] + D3[2] * 2 + D3[3]) / 4));
        moves(2);
        act("p and q: p+ ahead of all, so [its PLACE - 1] is p's", 10, 0, 0, 2, 0, 0);
        ready(10, "head 0,3,0");
        becomes(3, 0, bits((D3[0] + D3[1] * 2 + D3[2]) / 4));
        moves(2);
        act("p and q at the first", 10, 0, 0, 2, 0, 0);
        ready(10, "head 0,3,-1");
        moves(1);
        act("p and q ahead of the first: [-1]", 10, 0, 0, 2, 0, OFF);
        ready(12, "head 0,3,0");
        float chased = (float) (2.5 - D3[1]);
        becomes(0, 1, bits(chased));
        becomes(3, 0, bits(1 - (double) chased));
        moves(2, 1, 0);
        act("p and r", 12, 0, 1, 0, 0, 0);
        ready(12, "head 0,3,0");
        moves(2, 0, 0);
        act("p and q: q is MISSING", 12, 0, 0, 2, 0, MISSING);
        ready(12, "head 1,0,1");
        moves(1, 2, 0);
        act("q and r: r is MISSING", 12, 0, 1, 1, 0, MISSING);
        ready(12, "head 0,3,0");
        moves(2);
        act("all three: q is MISSING", 12, 0, 0, 0, 0, MISSING);
    }

    private static void twoHeadsOverOneCell() {
        about("two HEADS over one CELL");
        ready(5, "head 0,3,2", "head 1,3,2");
        becomes(3, 2, bits(D2[1] * 0.5));
        moves(1, 1, 1);
        act("p and q", 5, 0, 0);
        ready(5, "head 1,3,2", "head 2,3,2");
        becomes(3, 2, bits(D3[2] * 0.5));
        becomes(2, 0, bits(D3[2] * 0.5));
        moves(1, 1, 1);
        act("q and r", 5, 0, 0);
        ready(5, "head 0,3,2", "head 1,3,2", "head 2,3,2");
        becomes(3, 2, bits(D3[2] * 0.5));
        moves(1, 1, 1);
        act("all three", 5, 0, 0);
        ready(4, "head 0,1,2", "head 1,1,2");
        becomes(1, 2, bits((float) D2[1]));
        moves(1, -1, 1);
        act("p and q", 4, 0, 0);
        ready(6, "head 0,3,1", "head 1,3,1");
        becomes(3, 1, bits(D3[1] + D2[1] * 0.5));
        moves(1, 1, -1);
        act("p and q", 6, 0, 0);
        ready(6, "head 0,3,1", "head 2,3,1");
        becomes(3, 1, bits(D3[3] + D3[1] * 0.5));
        moves(1, 1, -1);
        act("p and r", 6, 0, 0);
        ready(7, "head 0,0,1", "head 1,0,0");
        moves(1, 0, 1);
        act("p and q[1]", 7, 0, 0);
        ready(8, "head 0,1,1");
        becomes(2, 2, bits(2.0 * -2));
        moves(1, 0, 1);
        act("p and r", 8, 1, 0);
        ready(10, "head 0,3,0");
        becomes(3, 0, bits((D3[0] + D3[1] * 2 + D3[2]) / 4));
        moves(1, 1);
        act("p and q[its PLACE - 1]", 10, 0, 0);
        ready(10, "head 0,3,2");
        becomes(3, 2, bits((D3[0] + D3[1] * 2 + D3[2]) / 4));
        moves(1, 1);
        act("p and +q", 10, 0, 0);
        ready(12, "head 0,3,1", "head 2,3,1");
        float chased = (float) (2.5 - D3[1]);
        becomes(0, 1, bits(chased));
        becomes(3, 1, bits(D3[1] - (double) chased));
        moves(1, 1, 1);
        act("p and r: both TOLD ahead of what is SET", 12, 0, 0);
    }

    private static void whatCameIntoTheNextOneAsItIsThere() {
        about("each one's right side is what came into the next one");
        ready(4, "head 2,3,1");
        becomes(1, 3, bits((float) D3[1]));
        becomes(0, 0, bits((float) D3[1]));
        moves(1, -1, 1);
        act("a SINGLE of a SINGLE", 4, 0, 0);
        ready(12, "head 2,3,1", "head 0,2,3");
        float chased = (float) (2.5 - D3[1]);
        becomes(0, 1, bits(chased));
        becomes(2, 3, bits(1 - (double) chased));
        moves(1, 1, 1);
        act("the SINGLE, not what it was made from", 12, 0, 0);
        due("these two differ", bits(1 - (2.5 - D3[1])) == bits(1 - (double) chased) ? 1 : 0, 0);
    }

    private static void whatIsNotToldIsNotLookedAt() {
        about("what a KIND doesn't tell must be there, but is not looked at");
        for (int kind = 0; kind < 16; kind++) {
            for (int wrong = 1; wrong < 5; wrong++) {
                ready(kind);
                int[] a = {0, 0, 1, 2, 0};
                a[wrong] = 10;
                due(NAMES[kind] + " with a 10", x.act(kind, a[1], a[2], a[3], a[4]), NONE);
                a[wrong] = -1;
                due(NAMES[kind] + " with a -1", x.act(kind, a[1], a[2], a[3], a[4]), NONE);
                due(NAMES[kind] + " did nothing", x.count(4), 0);
                due(NAMES[kind] + " moved nothing", x.head(0, 1), places[0]);
            }
        }
    }
}
