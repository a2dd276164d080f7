/** The edges of THE DESK: EVERY at its ends, each ANSWER, and what a HALT, a ROUND or a PLAYER that can't begin leave. */
public final class DeskEdgesTest extends Probe {
    public static void main(String[] args) {
        everyOne();
        everySixty();
        everyIsOfNow();
        everyBesidesItsEnds();
        answersBesidesTheirEnds();
        answerIsGivenOnlyWhenRefused();
        pass();
        home();
        roundAboveAndBelow();
        roundAtAnIntsEnds();
        roundWithoutCells();
        roundOfWhatIsTold();
        pull();
        haltInTheMidst();
        haltInTheFirstAndInTheLast();
        haltIsOfItsRun();
        half();
        halfOfOddOnes();
        halfEndsAGlide();
        firstAndLastPart();
        noSuchPart();
        eightAreThere();
        beginsInTheNextTick();
        slotsInTheirOrder();
        plugAndPullInTheTick();
        howOftenItWasRefused();
        whatReadLeaves();
        finish();
    }

    /** A box in SLOT s that is refused each time: FADE with HEAD h over LOOP 11, which is not there; the HEAD counts its ACTS. */
    private static String failing(int s, int h, int every, int answer) {
        return "plug " + s + ",3," + h + ",9,9,9," + every + "," + answer + "\nhead " + h + ",11,0";
    }

    private static void everyOne() {
        about("EVERY 1");
        EchoStudio x = played(1, failing(0, 0, 1, 0));
        due("in its first tick", x.head(0, 1), 1);
        x.run(7);
        due("in each", x.head(0, 1), 8);
        due("ACTS", x.count(4), 8);
    }

    private static void everySixty() {
        about("EVERY 60");
        EchoStudio x = played(1, failing(0, 0, 60, 0));
        due("NOW 0", x.head(0, 1), 1);
        x.run(59);
        due("till NOW 59", x.head(0, 1), 1);
        x.run(1);
        due("NOW 60", x.head(0, 1), 2);
        x.run(59);
        due("till NOW 119", x.head(0, 1), 2);
        x.run(500);
        due("NOW 120, 180, 240 .. 600", x.head(0, 1), 11);
    }

    private static void everyIsOfNow() {
        about("NOW is divisible by EVERY");
        EchoStudio x = played(10, "wait 7", failing(0, 0, 5, 0));
        due("not in the tick of its plug", x.head(0, 1), 0);
        x.run(1);
        due("NOW 10", x.head(0, 1), 1);
        x = played(4, "wait 3", failing(0, 0, 3, 0));
        due("in the tick of its plug", x.head(0, 1), 1);
        x = played(12, failing(0, 0, 2, 0), failing(1, 1, 3, 0), failing(2, 2, 4, 0), failing(3, 3, 12, 0));
        due("0 2 4 6 8 10", x.head(0, 1), 6);
        due("0 3 6 9", x.head(1, 1), 4);
        due("0 4 8", x.head(2, 1), 3);
        due("0", x.head(3, 1), 1);
    }

    private static void everyBesidesItsEnds() {
        about("EVERY 1 .. 60");
        due("0", refused("plug 0,3,0,0,0,0,0,0"), 8);
        due("-1", refused("plug 0,3,0,0,0,0,-1,0"), 8);
        due("61", refused("plug 0,3,0,0,0,0,61,0"), 8);
        due("0.9999", refused("plug 0,3,0,0,0,0,0.9999,0"), 8);
        due("1", played(0, "plug 0,3,0,0,0,0,1,0").slot(0, 5), NONE);
        due("1", played(1, "plug 0,3,0,0,0,0,1,0").slot(0, 5), 1);
        due("1.9999", played(1, "plug 0,3,0,0,0,0,1.9999,0").slot(0, 5), 1);
        due("60", played(1, "plug 0,3,0,0,0,0,60,0").slot(0, 5), 60);
        due("60.9999", played(1, "plug 0,3,0,0,0,0,60.9999,0").slot(0, 5), 60);
        due("beyond an int", refused("plug 0,3,0,0,0,0,999999*999999,0"), 8);
    }

    private static void answersBesidesTheirEnds() {
        about("the ANSWERS");
        for (int answer : new int[] {0, 1, 2, 3, 4, 5, 100, 101, 128, 129}) {
            EchoStudio x = played(1, "loop 0,9", "plug 0,3,0,0,0,0,1," + answer);
            due("ANSWER " + answer, x.slot(0, 6), answer);
            due("no refusal", x.count(9), 0);
        }
        for (int answer : new int[] {-1, 6, 7, 50, 99, 130, 131, 1000}) {
            EchoStudio x = played(1, "loop 0,9", "plug 0,3,0,0,0,0,1," + answer);
            due("ANSWER " + answer, x.slot(0, 6), NONE);
            due("NONE", x.count(9), 8);
        }
        due("THE WHOLE of it", played(1, "loop 0,9", "plug 0,3,0,0,0,0,1,5.9999").slot(0, 6), 5);
        due("THE WHOLE of it", played(1, "loop 0,9", "plug 0,3,0,0,0,0,1,-0.9999").slot(0, 6), 0);
        due("THE WHOLE of it", played(1, "loop 0,9", "plug 0,3,0,0,0,0,1,129.9999").slot(0, 6), 129);
        due("THE WHOLE of it", refused("plug 0,3,0,0,0,0,1,99.9999"), 8);
        due("a plug that is refused leaves the box", played(1, "plug 0,3,1,2,3,4,5,0", "plug 0,4,0,0,0,0,0,0").slot(0, 0), 3);
    }

    private static void answerIsGivenOnlyWhenRefused() {
        about("an ACT that is not refused");
        EchoStudio x = played(0, "loop 0,3", "set 4=8", "plug 0,3,0,0,0,4,1,1", "plug 1,3,1,0,0,4,1,3", "plug 2,3,2,0,0,4,1,4", "plug 3,3,3,0,0,4,1,5",
                "plug 4,3,4,0,0,4,1,100");
        due("no HALT in three ticks, then one", x.run(9), 4);
        due("HOME", x.head(0, 1), 0);
        due("PULL", x.slot(1, 0), NONE);
        due("HALT", x.slot(2, 7), 1);
        due("no more SLOTS", x.head(3, 1), 3);
        due("so no HALF", x.dial(4), bits(8.0));
        due("and no PLAYER", x.count(2), 0);
        due("refusals", x.count(5), 3);
    }

    private static void pass() {
        about("0 PASS");
        EchoStudio x = played(3, failing(5, 2, 1, 0), "set 9=3");
        due("the HEAD stays", x.head(2, 1), 3);
        due("the box stays", x.slot(5, 0), 3);
        due("the DIAL stays", x.dial(9), bits(3.0));
        due("refused", x.slot(5, 7), 3);
        due("counted", x.count(5), 3);
        due("no LINE's", x.count(6), 0);
        due("the latest", x.count(9), 1);
        due("its SLOT", x.met(0, 2), 5);
        due("NOW then", x.met(0, 0), 2);
    }

    private static void home() {
        about("1 HOME");
        EchoStudio x = played(1, "loop 0,3", "head 0,0,-7", "head 1,7,99", "head 2,0,4", "plug 0,0,0,1,2,0,1,1");
        due("p", x.head(0, 1), 0);
        due("q, over no LOOP", x.head(1, 1), 0);
        due("r is not told", x.head(2, 1), 4);
        due("the LOOPS stay", x.head(1, 0), 7);
        x = played(1, "head 0,0,65536*32768-1", "plug 0,3,0,1,2,0,1,1");
        due("from the int's end", x.head(0, 1), 0);
        x = played(1, "head 0,3,5", "head 1,3,6", "head 2,3,7", "plug 0,6,0,1,2,0,1,1");
        due("those too that the ACT did not come to", x.head(0, 1) + x.head(1, 1) + x.head(2, 1), 0);
        x = played(1, "head 0,3,5", "plug 0,6,0,0,0,0,1,1");
        due("one HEAD for three", x.head(0, 1), 0);
    }

    /** The PLACE behind a FADE at a PLACE over a LOOP of a LENGTH, refused, and a ROUND. */
    private static int round(int length, String place) {
        return played(1, "loop 0," + length, "head 0,0," + place, "plug 0,3,0,1,2,0,1,2").head(0, 1);
    }

    private static void roundAboveAndBelow() {
        about("2 ROUND");
        due("p+ of -1 is 0", round(4, "-1"), 0);
        due("p+ of -2 is -1", round(4, "-2"), 3);
        due("p+ of -4 is -3", round(4, "-4"), 1);
        due("p+ of -5 is -4", round(4, "-5"), 0);
        due("p+ of -6 is -5", round(4, "-6"), 3);
        due("p+ of 4 is 5", round(4, "4"), 1);
        due("p+ of 6 is 7", round(4, "6"), 3);
        due("p+ of 7 is 8", round(4, "7"), 0);
        due("LENGTH 1, above", round(1, "12"), 0);
        due("LENGTH 1, below", round(1, "-12"), 0);
        due("LENGTH 300, above", round(300, "300"), 1);
        due("LENGTH 300, below", round(300, "-3"), 298);
        due("not refused: no ROUND", round(4, "3"), 4);
        due("p+ of 3 is 4, refused as it is of the other sort", played(1, "drum 0,4", "head 0,0,3", "plug 0,3,0,1,2,0,1,2").head(0, 1), 0);
    }

    private static void roundAtAnIntsEnds() {
        about("2 ROUND at an int's ends");
        due("p+ of the greatest is the least", round(3, "65536*32768-1"), 1);
        due("p+ of the least", round(3, "-65536*32768"), 2);
        due("p+ of the greatest but one", round(10, "65536*32768-2"), 7);
        due("the least, of 300", round(300, "65536*32768-1"), Math.floorMod(LEAST, 300));
    }

    private static void roundWithoutCells() {
        about("2 ROUND over a LOOP without CELLS, or none");
        due("without CELLS", round(0, "7"), 8);
        due("without CELLS, below 0", round(0, "-7"), -6);
        due("no LOOP", played(1, "head 0,5,-7", "plug 0,3,0,1,2,0,1,2").head(0, 1), -6);
        EchoStudio x = played(1, "drum 1,4", "loop 2,0", "head 0,2,9", "head 1,1,9", "head 2,6,9", "plug 0,6,0,1,2,0,1,2");
        due("p: without CELLS", x.head(0, 1), 10);
        due("q: round", x.head(1, 1), 2);
        due("r: no LOOP, and not come to", x.head(2, 1), 9);
    }

    private static void roundOfWhatIsTold() {
        about("2 ROUND of the HEADS that its KIND tells");
        int[] told = {2, 2, 2, 1, 3, 3, 3, 3, 3, 1, 2, 2, 3, 1, 2, 2};
        for (int kind = 0; kind < 16; kind++) {
            // All are over a LOOP of one CELL, of SINGLES, far off: each KIND is refused at the first that is TOLD.
            EchoStudio x = played(1, "loop 0,1", "head 0,0,50", "head 1,0,50", "head 2,0,50", "plug 0," + kind + ",0,1,2,0,1,2");
            due("refused", x.count(5), 1);
            for (int h = 0; h < 3; h++) {
                due("KIND " + kind + ", HEAD " + h, x.head(h, 1), h < told[kind] ? 0 : 50);
            }
        }
    }

    private static void pull() {
        about("3 PULL");
        EchoStudio x = played(1, failing(0, 0, 1, 3), failing(1, 1, 1, 0));
        for (int what = 0; what < 8; what++) {
            due("slot(0, " + what + ")", x.slot(0, what), NONE);
        }
        due("the next SLOT had its turn", x.head(1, 1), 1);
        due("its refusal is counted", x.count(5), 2);
        x.run(3);
        due("it acts no more", x.head(0, 1), 1);
        due("the next one does", x.head(1, 1), 4);
        x = played(2, failing(0, 0, 1, 3), "wait 1", "plug 0,3,0,0,0,0,1,0");
        due("a new box", x.slot(0, 7), 1);
    }

    private static void haltInTheMidst() {
        about("4 HALT in the midst");
        EchoStudio x = played(0, failing(2, 2, 1, 0), failing(5, 5, 3, 4), failing(6, 6, 1, 0), "glide 0,10,10");
        due("in its first tick", x.run(10), 1);
        due("SLOT 2 had its turn", x.head(2, 1), 1);
        due("SLOT 6 had none", x.head(6, 1), 0);
        due("DIALS GLIDE on", x.dial(0), bits(1.0));
        due("NOW is 1 more", x.count(0), 1);
        due("NOW 1, 2, 3", x.run(10), 3);
        due("SLOT 2", x.head(2, 1), 4);
        due("SLOT 6 had NOW 1 and 2", x.head(6, 1), 2);
        due("DIALS GLIDE on", x.dial(0), bits(4.0));
        due("its run's last one anyway", x.run(3), 3);
        due("NOW", x.count(0), 7);
        due("the box stays", x.slot(5, 7), 3);
    }

    private static void haltInTheFirstAndInTheLast() {
        about("4 HALT in the first and the last SLOT");
        EchoStudio x = played(0, failing(11, 2, 2, 4), failing(10, 3, 1, 0));
        due("in the last", x.run(10), 1);
        due("SLOT 10 had its turn", x.head(3, 1), 1);
        due("NOW 1 and 2", x.run(10), 2);
        due("SLOT 10", x.head(3, 1), 3);
        x = played(0, failing(0, 2, 1, 4), failing(1, 3, 1, 0), failing(11, 4, 1, 0));
        due("in the first", x.run(500), 1);
        due("SLOT 1 had none", x.head(3, 1), 0);
        due("SLOT 11 had none", x.head(4, 1), 0);
        x = played(0, failing(0, 2, 1, 4), failing(1, 3, 1, 4));
        due("of two the first", x.run(500), 1);
        due("the second had none", x.slot(1, 7), 0);
    }

    private static void haltIsOfItsRun() {
        about("4 HALT is of its run alone");
        EchoStudio x = played(0, failing(0, 2, 1, 4), "while 0<1", "set 7=dial(7)+1", "wait 1", "end");
        for (int i = 1; i <= 5; i++) {
            due("one tick each time", x.run(7), 1);
            due("NOW", x.count(0), i);
            due("the PLAYER goes on", x.dial(7), bits((double) i));
        }
        due("run(0)", x.run(0), 0);
        playMore(x, 3, "pull 0");
        due("when it is pulled", x.count(0), 8);
    }

    /** DIAL 9, when a box with this ANSWER was refused so often. */
    private static long halved(int ticks, String sum) {
        return played(ticks, "set 0=65536*65536", "set 0=dial(0)*dial(0)", "set 0=dial(0)*dial(0)", "set 0=dial(0)*dial(0)", "set 0=dial(0)*dial(0)",
                "set 1=dial(0)*dial(0)", "set 9=" + sum, failing(0, 2, 1, 5)).dial(9);
    }

    private static void half() {
        about("5 HALF");
        due("of 8", halved(1, "8"), bits(4.0));
        due("twice", halved(2, "8"), bits(2.0));
        due("of -3", halved(1, "-3"), bits(-1.5));
        EchoStudio x = played(1, "set 4=8", "set 5=8", "loop 0,0", "plug 0,0,0,0,0,4,1,5");
        due("of a DIAL that its KIND doesn't tell", x.dial(4), bits(4.0));
        due("of no other", x.dial(5), bits(8.0));
    }

    private static void halfOfOddOnes() {
        about("5 HALF of odd ones");
        due("0", halved(1, "0"), 0);
        due("-0", halved(1, "-0"), bits(-0.0));
        due("the infinite", halved(1, "dial(1)"), bits(INF));
        due("the infinite below 0", halved(1, "-dial(1)"), bits(-INF));
        due("NaN", halved(1, "dial(1)-dial(1)"), bits(NAN));
        // DIAL 0 is 2 to the 512th: the least DOUBLE is 2 to the -1,074th.
        due("the least: of two the one whose last bit is 0", halved(1, "1/dial(0)/dial(0)/(4096*4096*4096*4096*4)"), 0);
        due("three times the least", halved(1, "3/dial(0)/dial(0)/(4096*4096*4096*4096*4)"), 2);
    }

    private static void halfEndsAGlide() {
        about("5 HALF: it GLIDES no more");
        EchoStudio x = played(1, "set 9=8", "glide 9,18,10", "glide 8,10,10", "wait 2", failing(0, 2, 1, 5));
        due("it GLIDES", x.dial(9), bits(9.0));
        due("two do", x.count(12), 2);
        x.run(1);
        due("it GLIDES", x.dial(9), bits(10.0));
        x.run(1);
        due("its half, without a STEP", x.dial(9), bits(5.0));
        due("one does", x.count(12), 1);
        due("the other one", x.dial(8), bits(3.0));
        x = played(1, "set 9=8", "glide 9,18,1", failing(0, 2, 1, 5));
        due("in its last tick", x.dial(9), bits(4.0));
    }

    private static String thirtyParts() {
        StringBuilder all = new StringBuilder();
        for (int i = 0; i < 30; i++) {
            all.append("part ").append((char) ('a' + i % 26)).append(i < 26 ? "" : "x").append("\n");
            all.append(i == 0 ? failing(0, 2, 1, 129) + "\nwait 1\npull 0\n" : "set 7=" + i + "\nwait 9\n").append("end\n");
        }
        return all.toString();
    }

    private static void firstAndLastPart() {
        about("100 and 129");
        EchoStudio x = studio(thirtyParts());
        due("PARTS", x.count(1), 30);
        x.play(0);
        x.run(1);
        due("a PLAYER began", x.count(2), 2);
        due("PART 29", x.player(1, 0), 29);
        x.run(1);
        due("it plays", x.dial(7), bits(29.0));
        x = played(1, failing(0, 2, 1, 100));
        due("PART 0", x.player(0, 0), 0);
        due("one", x.count(2), 1);
        due("it did no LINE", x.player(0, 3), 0);
        due("it is in one PART", x.player(0, 1), 1);
        due("it doesn't wait", x.player(0, 2), NONE);
    }

    private static void noSuchPart() {
        about("100 .. 129: no such PART");
        EchoStudio x = played(1, failing(0, 2, 1, 101), failing(1, 3, 1, 129));
        due("nothing", x.count(2), 0);
        due("the ACTS are refused", x.count(5), 2);
        due("no LINE's", x.count(6), 0);
        x = studio(thirtyParts());
        x.play(0);
        due("read", readText(x, part("a") + part("b")), 0);
        x.run(2);
        due("not played", x.slot(0, 0), NONE);
        x = studio(part("a", failing(0, 2, 1, 101)), part("b", "set 7=1"));
        x.play(0);
        x.run(2);
        due("PART 1", x.dial(7), bits(1.0));
        due("read", readText(x, part("a")), 0);
        x.run(1);
        due("none such any more", x.count(2), 0);
        due("refused", x.slot(0, 7), 3);
    }

    private static void eightAreThere() {
        about("100 .. 129: eight are there");
        EchoStudio x = studio(part("a", failing(0, 2, 1, 101)), part("b", "wait 99"));
        for (int i = 0; i < 8; i++) {
            x.play(i == 0 ? 0 : 1);
        }
        x.run(1);
        due("the first ended, one began", x.count(2), 8);
        due("the last one is new", x.player(7, 3), 0);
        x.run(1);
        due("nothing", x.count(2), 8);
        due("refused all the same", x.slot(0, 7), 2);
        due("no LINE's refusal", x.count(6), 0);
        x = studio(part("a", failing(0, 2, 1, 101), failing(1, 3, 1, 101)), part("b", "wait 99"));
        for (int i = 0; i < 8; i++) {
            x.play(i == 0 ? 0 : 1);
        }
        x.run(1);
        due("the eighth began, then none", x.count(2), 8);
        due("both boxes are refused", x.slot(0, 7) + x.slot(1, 7), 2);
    }

    private static void beginsInTheNextTick() {
        about("a PLAYER of an ANSWER");
        EchoStudio x = studio(part("a", failing(0, 2, 60, 101), "set 7=1", "wait 1", "set 7=dial(7)*10+2"), part("b", "set 7=dial(7)*10+3"));
        x.play(0);
        x.run(1);
        due("it is there", x.count(2), 2);
        due("it did nothing", x.dial(7), bits(1.0));
        x.run(1);
        due("behind all that are there", x.dial(7), bits(123.0));
        due("both ended", x.count(2), 0);
    }

    private static void slotsInTheirOrder() {
        about("the SLOTS from 0 on");
        // SLOT 0 brings a DOUBLE to the LOOP, SLOT 1 fades it, SLOT 2 lifts it: plugged in another order.
        EchoStudio x = played(1, "loop 0,1", "drum 1,2", "head 0,1,0", "put 0=5", "head 0,0,0", "head 1,1,0", "head 2,0,0", "head 3,1,1", "head 4,0,0",
                "set 0=3", "plug 2,1,3,4,0,0,1,0", "plug 1,3,2,0,0,0,1,0", "plug 0,0,0,1,0,0,1,0");
        due("15", x.cell(1, 1), bits(15.0));
        due("three ACTS", x.count(4), 3);
        due("none refused", x.count(5), 0);
        x = played(1, failing(11, 1, 1, 0), failing(0, 2, 1, 0), failing(5, 3, 1, 0));
        due("the latest is SLOT 11's", x.met(0, 2), 11);
        due("ahead of it SLOT 5's", x.met(1, 2), 5);
        due("the first is SLOT 0's", x.met(2, 2), 0);
    }

    private static void plugAndPullInTheTick() {
        about("plug and pull ahead of the SLOTS of their tick");
        EchoStudio x = played(3, failing(0, 2, 1, 0), "wait 2", "pull 0");
        due("two ACTS", x.head(2, 1), 2);
        due("it is empty", x.slot(0, 0), NONE);
        x = played(1, failing(0, 2, 1, 0), "pull 0", "pull 0", "pull 11");
        due("no ACT", x.count(4), 0);
        due("pull of an empty one", x.count(9), 0);
        x = played(1, failing(0, 2, 1, 0), "plug 0,3,4,9,9,9,1,0", "head 4,11,0");
        due("the box that was there is gone", x.head(2, 1), 0);
        due("the new one acts", x.head(4, 1), 1);
    }

    private static void howOftenItWasRefused() {
        about("how often its box was refused");
        EchoStudio x = played(0, failing(0, 2, 1, 0), "wait 3", "plug 0,3,2,9,9,9,1,0", "wait 2", "pull 0", "plug 0,3,2,9,9,9,2,0");
        x.run(3);
        due("three times", x.slot(0, 7), 3);
        x.run(1);
        due("a new box, once", x.slot(0, 7), 1);
        x.run(1);
        due("twice", x.slot(0, 7), 2);
        x.run(1);
        due("NOW 5: a new one that had no turn", x.slot(0, 7), 0);
        x.run(1);
        due("NOW 6", x.slot(0, 7), 1);
        due("an ACT of act() is no box's", x.act(3, 2, 9, 9, 9), 1);
        due("an ACT of act() is no box's", x.slot(0, 7), 1);
        playMore(x, 0, "try", "burst 3,2,9,9,9,1", "on any", "end");
        due("nor one of a burst", x.slot(0, 7), 1);
    }

    private static void whatReadLeaves() {
        about("SLOTS stay when a SCORE is read");
        EchoStudio x = played(1, failing(4, 2, 1, 0));
        due("read", readText(x, part("b")), 0);
        x.run(2);
        due("it acts on", x.slot(4, 7), 3);
        due("a fault", readText(x, "part"), 2);
        x.run(1);
        due("it acts on", x.slot(4, 7), 4);
    }
}
