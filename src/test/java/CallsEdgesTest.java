/** The edges of promises 1 to 16: the least and the greatest arguments, those next to them, and the int's own ends. */
public final class CallsEdgesTest extends Probe {
    /** What is no number of anything: next to each row's ends, and the int's own. */
    private static final int[] FAR = {-1, -2, 1000, LEAST, LEAST + 1, GREATEST, GREATEST - 1};

    public static void main(String[] args) {
        aNewObject();
        objectsAreApart();
        feedAtItsEnds();
        feedBeyondItsEnd();
        theHighestOfAFirst();
        backOfAllOfNoneAndOfTooMany();
        readOfWhatIsLeft();
        playAtItsEnds();
        runAtItsEnds();
        actAtItsEnds();
        loopAtItsEnds();
        cellAtItsEnds();
        headAtItsEnds();
        dialAtItsEnds();
        slotAtItsEnds();
        playerAtItsEnds();
        countAtItsEnds();
        countOfEach();
        metWithFewerThanThirty();
        metAtTwentyNineAndThirty();
        metOfEachSort();
        peakAtItsEnds();
        peakOfOddOnes();
        answersChangeNothing();
        finish();
    }

    private static void aNewObject() {
        about("promise 1");
        EchoStudio x = new EchoStudio();
        due("NONE", EchoStudio.NONE, -1);
        for (int n = 0; n < 12; n++) {
            due("no LOOPS", x.loop(n, 0), NONE);
            due("an empty desk", x.slot(n, 0), NONE);
        }
        for (int what = 0; what <= 12; what++) {
            due("count(" + what + ")", x.count(what), 0);
        }
        due("no SCORE", x.play(0), NONE);
        due("an empty tape", x.back(0), 0);
        due("an empty tape", x.back(1), NONE);
        due("its first tick is NOW 0", x.run(1), 1);
        due("NOW", x.count(0), 1);
        due("an ACT", x.act(0, 0, 0, 0, 0), 1);
        due("a HEAD moves from 0", x.head(0, 1), 2);
    }

    private static void objectsAreApart() {
        about("promise 1: objects are apart");
        EchoStudio x = played(2, "loop 0,3", "set 0=1", "head 0,1,1", "plug 0,3,0,0,0,0,1,0", "scene 0", "wait 9");
        EchoStudio y = new EchoStudio();
        feedText(x, "abc");
        due("LOOPS", y.loop(0, 0), NONE);
        due("DIALS", y.dial(0), 0);
        due("HEADS", y.head(0, 0), 0);
        due("SLOTS", y.slot(0, 0), NONE);
        due("PLAYERS", y.count(2), 0);
        due("PARTS", y.count(1), 0);
        due("NOW", y.count(0), 0);
        due("the tape", y.back(0), 0);
        due("met", y.met(0, 0), NONE);
        playMore(y, 1, "recall 0");
        due("scenes", y.count(9), 1);
        due("LOOPS made", y.count(10), 0);
    }

    private static void feedAtItsEnds() {
        about("promise 2");
        EchoStudio x = new EchoStudio();
        for (int i = 1; i <= 199; i++) {
            due("feed", x.feed(0, 0, 0, 0, 0), 20 * i);
        }
        due("3,980 are there", x.back(0), 3980);
        due("feed at 3,980", x.feed(LEAST, GREATEST, -1, 0, 1), 4000);
        due("feed at 4,000", x.feed(0, 0, 0, 0, 0), NONE);
        due("nothing came", x.back(0), 4000);
        due("back to 3,981", x.back(19), 3981);
        due("feed at 3,981", x.feed(0, 0, 0, 0, 0), NONE);
        due("nothing came", x.back(0), 3981);
        due("back to 3,980", x.back(1), 3980);
        due("feed at 3,980", x.feed(0, 0, 0, 0, 0), 4000);
        due("back to 3,999", x.back(1), 3999);
        due("feed at 3,999", x.feed(0, 0, 0, 0, 0), NONE);
        due("back to 3,979", x.back(20), 3979);
        due("feed at 3,979", x.feed(0, 0, 0, 0, 0), 3999);
    }

    private static void feedBeyondItsEnd() {
        about("promise 2: what is fed beyond the end does not come");
        EchoStudio x = new EchoStudio();
        feedText(x, repeated(" ", 3970) + part("a") + repeated(" ", 19));
        due("4,000", x.back(0), 4000);
        due("feed", x.feed(0x40404040, 0x40404040, 0x40404040, 0x40404040, 0x40404040), NONE);
        due("it is read without it", x.read(), 0);
        due("then it can be fed", x.feed(0x40404040, 0, 0, 0, 0), 20);
        due("and is read", x.read(), 1);
    }

    private static void theHighestOfAFirst() {
        about("promise 2: twenty bytes, the highest of a first");
        EchoStudio x = new EchoStudio();
        due("part abcdefgh, end", x.feed(0x70617274, 0x20616263, 0x64656667, 0x680A656E, 0x640A2020), 20);
        due("read", x.read(), 0);
        due("PARTS", x.count(1), 1);
        due("a byte of 128 or more", x.feed(0x70617274, 0x20610A65, 0x6E640A20, 0x20202020, 0x200A0AFF), 20);
        due("its line", x.read(), 16 * 4 + 1);
        due("bytes 255", x.feed(-1, -1, -1, -1, -1), 20);
        due("no TOKEN", x.read(), 1);
        due("in a remark", x.feed(0x3BFFFE80, 0x0A706172, 0x7420610A, 0x656E640A, 0x20202020), 20);
        due("read", x.read(), 0);
        due("the lowest of e last", x.feed(0x0A0A0A0A, 0x0A0A0A0A, 0x0A0A0A0A, 0x0A0A0A0A, 0x0A0A0A40), 20);
        due("its line", x.read(), 16 * 19 + 1);
    }

    private static void backOfAllOfNoneAndOfTooMany() {
        about("promise 3");
        EchoStudio x = new EchoStudio();
        due("of none, of an empty one", x.back(0), 0);
        due("one too many of an empty one", x.back(1), NONE);
        due("-1", x.back(-1), NONE);
        x.feed(1, 2, 3, 4, 5);
        x.feed(1, 2, 3, 4, 5);
        due("of none", x.back(0), 40);
        due("one too many", x.back(41), NONE);
        due("nothing goes", x.back(0), 40);
        due("-1", x.back(-1), NONE);
        due("the least int", x.back(LEAST), NONE);
        due("the greatest int", x.back(GREATEST), NONE);
        due("nothing goes", x.back(0), 40);
        due("one", x.back(1), 39);
        due("one too many", x.back(40), NONE);
        due("all", x.back(39), 0);
        due("one too many", x.back(1), NONE);
        for (int i = 0; i < 200; i++) {
            x.feed(1, 2, 3, 4, 5);
        }
        due("one too many", x.back(4001), NONE);
        due("all of 4,000", x.back(4000), 0);
        due("feed from the beginning", x.feed(1, 2, 3, 4, 5), 20);
    }

    private static void readOfWhatIsLeft() {
        about("promise 3: what goes is not read");
        EchoStudio x = new EchoStudio();
        feedText(x, part("a") + "@@@");
        due("back", x.back(3), 11);
        due("read", x.read(), 0);
        feedText(x, "part a\nen@@");
        due("back", x.back(2), 9);
        feedText(x, "d\n");
        due("read", x.read(), 0);
    }

    private static void playAtItsEnds() {
        about("promise 5");
        EchoStudio x = studio(part("a"), part("b"), part("c"));
        for (int k : new int[] {-1, 3, 4, 29, 30, LEAST, GREATEST}) {
            due("play(" + k + ")", x.play(k), NONE);
        }
        due("none came", x.count(2), 0);
        due("play(0)", x.play(0), 1);
        due("play(2)", x.play(2), 2);
        due("play(1)", x.play(1), 3);
        for (int i = 4; i <= 8; i++) {
            due("play", x.play(2), i);
        }
        due("eight are there", x.play(0), NONE);
        due("no such PART, and eight", x.play(3), NONE);
        due("their order", x.player(0, 0) * 100 + x.player(1, 0) * 10 + x.player(2, 0), 21);
        due("no refusal", x.count(9), 0);
    }

    private static void runAtItsEnds() {
        about("promise 6");
        EchoStudio x = new EchoStudio();
        for (int n : new int[] {-1, 501, 502, LEAST, GREATEST}) {
            due("run(" + n + ")", x.run(n), NONE);
        }
        due("no tick", x.count(0), 0);
        due("run(0)", x.run(0), 0);
        due("no tick", x.count(0), 0);
        due("run(1)", x.run(1), 1);
        due("run(499)", x.run(499), 499);
        due("run(500)", x.run(500), 500);
        due("NOW", x.count(0), 1000);
        x = studio(part("a", "while 0<1", "set 0=dial(0)+1", "wait 1", "end"));
        x.play(0);
        due("run(501)", x.run(501), NONE);
        due("nothing was done", x.count(3), 0);
        due("run(500)", x.run(500), 500);
        due("each tick", x.dial(0), bits(500.0));
    }

    private static void actAtItsEnds() {
        about("promise 7");
        EchoStudio x = played(1, "loop 0,9", "drum 1,9");
        int[] first = {16, 10, 10, 10, 10};
        int calls = 0;
        for (int i = 0; i < 5; i++) {
            for (int wrong : new int[] {-1, first[i], first[i] + 1, LEAST, GREATEST}) {
                int[] a = {3, 0, 0, 0, 0};
                a[i] = wrong;
                due("act with " + wrong, x.act(a[0], a[1], a[2], a[3], a[4]), NONE);
                calls++;
            }
        }
        due("calls", calls, 25);
        due("nothing happened", x.count(4), 0);
        due("nothing moved", x.head(0, 1), 0);
        due("no refusal", x.count(5), 0);
        due("the greatest ones", x.act(15, 9, 9, 9, 9), 1);
        due("the least ones", x.act(0, 0, 0, 0, 0), 1);
        due("ACTS", x.count(4), 2);
        due("no LINE more", x.count(3), 2);
        due("NOW stays", x.count(0), 1);
    }

    private static void loopAtItsEnds() {
        about("promise 8");
        EchoStudio x = played(1, "loop 0,0", "drum 11,300", "loop 5,7");
        int[][] want = {{0, 0, 0}, {0, 1, 0}, {11, 0, 1}, {11, 1, 300}, {5, 0, 0}, {5, 1, 7}, {1, 0, NONE}, {1, 1, NONE}, {10, 0, NONE}, {12, 0, NONE}, {-1, 0, NONE},
            {-1, 1, NONE}, {12, 1, NONE}, {0, 2, NONE}, {0, -1, NONE}, {11, 2, NONE}, {1, 2, NONE}};
        for (int[] row : want) {
            due("loop(" + row[0] + ", " + row[1] + ")", x.loop(row[0], row[1]), row[2]);
        }
        for (int far : FAR) {
            due("loop(" + far + ", 1)", x.loop(far, 1), NONE);
            due("loop(5, " + far + ")", x.loop(5, far), NONE);
        }
    }

    private static void cellAtItsEnds() {
        about("promise 9");
        EchoStudio x = played(1, "loop 0,3", "put 0=1", "put 0=2", "put 0=3", "drum 11,1", "head 1,11,0", "put 1=-4", "loop 5,0");
        due("the first", x.cell(0, 0), bits(1f));
        due("the last", x.cell(0, 2), bits(3f));
        due("behind it", x.cell(0, 3), 0);
        due("ahead of the first", x.cell(0, -1), 0);
        due("of LOOP 11", x.cell(11, 0), bits(-4.0));
        due("behind it", x.cell(11, 1), 0);
        due("of one without CELLS", x.cell(5, 0), 0);
        due("of none", x.cell(1, 0), 0);
        for (int far : FAR) {
            due("cell(" + far + ", 0)", x.cell(far, 0), 0);
            due("cell(0, " + far + ")", x.cell(0, far), 0);
            due("cell(" + far + ", " + far + ")", x.cell(far, far), 0);
        }
        due("cell(12, 0)", x.cell(12, 0), 0);
    }

    private static void headAtItsEnds() {
        about("promise 10");
        EchoStudio x = played(1, "head 0,3,5", "head 9,11,-1");
        due("head(0, 0)", x.head(0, 0), 3);
        due("head(0, 1)", x.head(0, 1), 5);
        due("head(9, 0)", x.head(9, 0), 11);
        due("head(9, 1)", x.head(9, 1), -1);
        due("head(0, 2)", x.head(0, 2), 0);
        due("head(10, 0)", x.head(10, 0), 0);
        due("head(10, 1)", x.head(10, 1), 0);
        for (int far : FAR) {
            due("head(" + far + ", 0)", x.head(far, 0), 0);
            due("head(" + far + ", 1)", x.head(far, 1), 0);
            due("head(9, " + far + ")", x.head(9, far), 0);
        }
    }

    private static void dialAtItsEnds() {
        about("promise 11");
        EchoStudio x = played(1, "set 0=1", "set 9=-2");
        due("dial(0)", x.dial(0), bits(1.0));
        due("dial(9)", x.dial(9), bits(-2.0));
        due("dial(5)", x.dial(5), 0);
        due("dial(10)", x.dial(10), 0);
        for (int far : FAR) {
            due("dial(" + far + ")", x.dial(far), 0);
        }
    }

    private static void slotAtItsEnds() {
        about("promise 12");
        EchoStudio x = played(3, "head 1,11,0", "plug 0,3,1,2,3,4,1,0", "plug 11,15,9,8,7,6,60,129");
        int[][] want = {{3, 1, 2, 3, 4, 1, 0, 3}, {15, 9, 8, 7, 6, 60, 129, 1}};
        for (int what = 0; what < 8; what++) {
            due("slot(0, " + what + ")", x.slot(0, what), want[0][what]);
            due("slot(11, " + what + ")", x.slot(11, what), want[1][what]);
            due("slot(1, " + what + ")", x.slot(1, what), NONE);
            due("slot(12, " + what + ")", x.slot(12, what), NONE);
            due("slot(-1, " + what + ")", x.slot(-1, what), NONE);
        }
        due("slot(0, 8)", x.slot(0, 8), NONE);
        for (int far : FAR) {
            due("slot(" + far + ", 0)", x.slot(far, 0), NONE);
            due("slot(0, " + far + ")", x.slot(0, far), NONE);
        }
    }

    private static void playerAtItsEnds() {
        about("promise 13");
        EchoStudio x = studio(part("a", "do b", "set 0=1"), part("b", "set 0=2", "wait 3"));
        due("none is there", x.player(0, 0), NONE);
        for (int i = 0; i < 8; i++) {
            x.play(i % 2);
        }
        x.run(1);
        int[][] want = {{1, 2, 3, 3}, {1, 1, 3, 2}};
        for (int i = 0; i < 8; i++) {
            for (int what = 0; what < 4; what++) {
                due("player(" + i + ", " + what + ")", x.player(i, what), want[i % 2][what]);
            }
        }
        due("player(0, 4)", x.player(0, 4), NONE);
        due("player(8, 0)", x.player(8, 0), NONE);
        for (int far : FAR) {
            due("player(" + far + ", 0)", x.player(far, 0), NONE);
            due("player(0, " + far + ")", x.player(0, far), NONE);
        }
        x.run(3);
        due("all ended", x.count(2), 0);
        due("player(0, 0)", x.player(0, 0), NONE);
        due("player(0, 3)", x.player(0, 3), NONE);
    }

    private static void countAtItsEnds() {
        about("promise 14");
        EchoStudio x = new EchoStudio();
        due("count(13)", x.count(13), NONE);
        for (int far : FAR) {
            due("count(" + far + ")", x.count(far), NONE);
        }
    }

    private static void countOfEach() {
        about("promise 14: each");
        EchoStudio x = studio(part("a", "loop 0,4", "drum 1,5", "copy 2,0", "turn 1", "head 0,0,0", "burst 3,0,0,0,0,3", "glide 1,1,9", "glide 2,1,9", "plug 3,3,9,9,9,9,1,0",
                "head 9,11,0", "start b", "try", "drop 99", "on any", "end", "try", "set 1=1/0", "on zero", "end", "wait 9"), part("b", "put 9=1"), part("c"));
        x.play(0);
        x.run(2);
        x.act(3, 0, 0, 0, 0);
        x.act(3, 0, 0, 0, 0);
        int[] want = {2, 3, 1, 19, 7, 3, 3, 2, 1, 2, 4, 18, 2};
        for (int what = 0; what < want.length; what++) {
            due("count(" + what + ")", x.count(what), want[what]);
        }
    }

    private static void metWithFewerThanThirty() {
        about("promise 15: fewer than 30 refusals");
        EchoStudio x = new EchoStudio();
        due("met(0, 0) of none", x.met(0, 0), NONE);
        due("met(29, 0) of none", x.met(29, 0), NONE);
        x.act(3, 0, 0, 0, 0);
        due("met(0, 1) of one", x.met(0, 1), 1);
        due("met(1, 1) of one", x.met(1, 1), NONE);
        for (int i = 2; i <= 29; i++) {
            x.act(3, 0, 0, 0, 0);
        }
        due("met(28, 1) of 29", x.met(28, 1), 1);
        due("met(29, 1) of 29", x.met(29, 1), NONE);
        x.act(3, 0, 0, 0, 0);
        due("met(29, 1) of 30", x.met(29, 1), 1);
        due("met(30, 1) of 30", x.met(30, 1), NONE);
    }

    private static void metAtTwentyNineAndThirty() {
        about("promise 15: 30 are kept");
        EchoStudio x = new EchoStudio();
        for (int now = 0; now < 75; now++) {
            x.act(3, 0, 0, 0, 0);
            x.run(1);
            if (now == 29 || now == 30 || now == 59 || now == 60 || now == 74) {
                due("met(0, 0)", x.met(0, 0), now);
                due("met(1, 0)", x.met(1, 0), now - 1);
                due("met(29, 0)", x.met(29, 0), now - 29);
                due("met(30, 0)", x.met(30, 0), NONE);
                due("met(31, 0)", x.met(31, 0), NONE);
            }
        }
        for (int i = 0; i < 30; i++) {
            due("met(" + i + ", 0)", x.met(i, 0), 74 - i);
        }
        for (int far : FAR) {
            due("met(" + far + ", 0)", x.met(far, 0), NONE);
            due("met(0, " + far + ")", x.met(0, far), NONE);
        }
        due("met(0, 3)", x.met(0, 3), NONE);
        due("met(29, 3)", x.met(29, 3), NONE);
    }

    private static void metOfEachSort() {
        about("promise 15: where");
        StringBuilder parts = new StringBuilder();
        for (int i = 0; i < 30; i++) {
            parts.append(part((char) ('a' + i % 26) + (i < 26 ? "" : "x"), i == 0 ? "plug 11,3,9,9,9,9,1,0\nhead 9,11,0\nwait 1\npull 11\ndo dx" : "set 99=1"));
        }
        EchoStudio x = studio(parts.toString());
        x.play(0);
        x.run(1);
        due("a SLOT", x.met(0, 2), 11);
        due("its kind", x.met(0, 1), 1);
        x.run(1);
        due("the PART of its LINE", x.met(0, 2), 129);
        due("its kind", x.met(0, 1), 8);
        due("NOW then", x.met(0, 0), 1);
        x.run(5);
        x.act(3, 9, 0, 0, 0);
        due("act()", x.met(0, 2), NONE);
        due("its kind", x.met(0, 1), 1);
        due("NOW then", x.met(0, 0), 7);
        due("the one ahead", x.met(1, 2), 129);
        due("the first", x.met(2, 2), 11);
    }

    private static void peakAtItsEnds() {
        about("promise 16");
        EchoStudio x = played(1, "loop 0,3", "put 0=-1.5", "put 0=1", "put 0=0.1", "drum 11,2", "head 1,11,1", "put 1=0.1", "loop 5,0", "drum 6,4");
        due("LOOP 0", x.peak(0), bits(1.5));
        due("LOOP 11", x.peak(11), bits(0.1));
        due("without CELLS", x.peak(5), 0);
        due("of zeros", x.peak(6), 0);
        due("not there", x.peak(1), 0);
        due("peak(12)", x.peak(12), 0);
        for (int far : FAR) {
            due("peak(" + far + ")", x.peak(far), 0);
        }
    }

    private static long peakOf(String... sums) {
        StringBuilder all = new StringBuilder("set 0=65536*65536\n" + repeated("set 0=dial(0)*dial(0)\n", 5) + "loop 3," + sums.length + "\nhead 0,3,0\n");
        for (String sum : sums) {
            all.append("put 0=").append(sum).append("\n");
        }
        return played(1, all.toString().trim()).peak(3);
    }

    private static void peakOfOddOnes() {
        about("promise 16: the greatest size");
        due("of the first", peakOf("-3", "2", "1"), bits(3.0));
        due("of the last", peakOf("1", "2", "-3"), bits(3.0));
        due("a SINGLE as a DOUBLE", peakOf("0.1"), bits((double) 0.1f));
        due("-0", peakOf("-0"), 0);
        due("the infinite", peakOf("5", "dial(0)", "7"), bits(INF));
        due("the infinite below 0", peakOf("5", "-dial(0)", "7"), bits(INF));
        due("NaN first", peakOf("dial(0)-dial(0)", "1"), bits(NAN));
        due("NaN last", peakOf("1", "dial(0)-dial(0)"), bits(NAN));
        due("NaN and the infinite", peakOf("dial(0)", "dial(0)-dial(0)", "dial(0)"), bits(NAN));
    }

    private static void answersChangeNothing() {
        about("promises 8 to 16 change nothing");
        EchoStudio x = played(1, "loop 0,3", "put 0=1", "plug 0,3,9,9,9,9,1,0", "head 9,11,0", "glide 0,9,9", "wait 5");
        long[] before = new long[9];
        for (int times = 0; times < 2; times++) {
            long[] now = {x.loop(0, 1), x.cell(0, 0), x.head(0, 1), x.dial(0), x.slot(0, 7), x.player(0, 3), x.count(4), x.met(0, 0), x.peak(0)};
            for (int i = 0; i < now.length; i++) {
                due("asked again", now[i], times == 0 ? now[i] : before[i]);
            }
            before = now;
        }
    }
}
