/** The edges of LOOPS and HEADS: PLACES at an int's ends, LOOPS that are not there, of LENGTH 0 and of LENGTH 300. */
public final class LoopsEdgesTest extends Probe {
    private static final String GREATEST_PLACE = "65536*32768-1";
    private static final String LEAST_PLACE = "-65536*32768";

    public static void main(String[] args) {
        aPlaceGoesRoundAboveTheGreatest();
        aPlaceGoesRoundBelowTheLeast();
        thePlaceAheadOfTheLeast();
        headsStandOverLoopZeroAtFirst();
        headsOverLoopsThatAreNotThere();
        aLoopThatIsNotThere();
        aLoopOfLengthZero();
        aLoopOfLengthThreeHundred();
        newCellsAreZero();
        aLoopThatTakesAnothersPlace();
        theFirstAndTheLastOfEach();
        finish();
    }

    private static EchoStudio over(int loop, String place) {
        return played(1, "loop 0,3", "drum 1,3", "head 0," + loop + "," + place);
    }

    private static void aPlaceGoesRoundAboveTheGreatest() {
        about("a PLACE goes round above the greatest int");
        EchoStudio x = over(0, GREATEST_PLACE);
        due("its PLACE", x.head(0, 1), GREATEST);
        due("FADE, p+: OFF", x.act(3, 0, 0, 0, 0), 2);
        due("p+", x.head(0, 1), LEAST);
        due("FADE again: OFF", x.act(3, 0, 0, 0, 0), 2);
        due("p+", x.head(0, 1), LEAST + 1);
        x = over(0, GREATEST_PLACE);
        due("STAMMER, +p: OFF", x.act(9, 0, 0, 0, 0), 2);
        due("+p", x.head(0, 1), LEAST);
        x = over(1, GREATEST_PLACE);
        due("RING, +p: OFF", x.act(13, 0, 0, 0, 0), 2);
        due("+p", x.head(0, 1), LEAST);
        x = over(0, GREATEST_PLACE);
        due("TAPE of one HEAD, two times on", x.act(0, 0, 0, 0, 0), 1);
        due("p+ q+", x.head(0, 1), LEAST + 1);
        due("place(h)", played(1, "head 0,0," + GREATEST_PLACE, "set 9=place(0)").dial(9), bits(2147483647.0));
    }

    private static void aPlaceGoesRoundBelowTheLeast() {
        about("a PLACE goes round below the least int");
        EchoStudio x = played(1, "loop 0,3", "drum 1,3", "head 0,1," + LEAST_PLACE, "head 1,0,0");
        due("its PLACE", x.head(0, 1), LEAST);
        due("LIFT, p-: OFF", x.act(1, 0, 1, 0, 0), 2);
        due("p-", x.head(0, 1), GREATEST);
        due("LIFT again: OFF", x.act(1, 0, 1, 0, 0), 2);
        due("p-", x.head(0, 1), GREATEST - 1);
        x = played(1, "loop 0,3", "head 1,0," + LEAST_PLACE);
        due("PICK, q-: OFF", x.act(15, 0, 1, 0, 0), 2);
        due("q-", x.head(1, 1), GREATEST);
        due("place(h)", played(1, "head 0,0," + LEAST_PLACE, "set 9=place(0)").dial(9), bits(-2147483648.0));
    }

    private static void thePlaceAheadOfTheLeast() {
        about("SMOOTH's [its PLACE - 1]");
        EchoStudio x = played(1, "drum 1,3", "drum 2,3", "head 0,1,0", "head 1,2," + LEAST_PLACE);
        due("at the least int it is the greatest one: OFF", x.act(10, 0, 1, 0, 0), 2);
        due("p is moved", x.head(0, 1), 1);
        due("q is not", x.head(1, 1), LEAST);
    }

    private static void headsStandOverLoopZeroAtFirst() {
        about("HEADS at first");
        EchoStudio x = played(1, "loop 0,2", "put 7=5");
        due("put is over LOOP 0, at 0", x.cell(0, 0), bits(5f));
        due("it moved on", x.head(7, 1), 1);
        due("MISSING without LOOP 0", new EchoStudio().act(3, 9, 0, 0, 0), 1);
    }

    private static void headsOverLoopsThatAreNotThere() {
        about("a HEAD over a LOOP that is not there");
        EchoStudio x = played(2, "head 3,11,2", "wait 1", "loop 11,3", "put 3=4");
        due("it stands over its number", x.head(3, 0), 11);
        due("when it comes the HEAD is over it", x.cell(11, 2), bits(4f));
        x = played(1, "loop 5,3", "head 3,5,1", "drop 5");
        due("it stays when the LOOP goes", x.head(3, 0), 5);
        due("at its PLACE", x.head(3, 1), 1);
        due("it moves there", x.act(3, 3, 0, 0, 0), 1);
        due("p+", x.head(3, 1), 2);
    }

    private static void aLoopThatIsNotThere() {
        about("a LOOP that is not there");
        EchoStudio x = played(1, "loop 5,3", "drop 5", "drop 5", "drop 6");
        due("drop is never refused for it", x.count(9), 0);
        due("loop(5, 0)", x.loop(5, 0), NONE);
        due("loop(5, 1)", x.loop(5, 1), NONE);
        due("cell(5, 0)", x.cell(5, 0), 0);
        due("peak(5)", x.peak(5), 0);
        due("it stays made", x.count(10), 1);
        due("its CELLS too", x.count(11), 3);
        due("length", refused("set 0=length(5)"), 1);
        due("sum", refused("set 0=sum(5)"), 1);
        due("loud", refused("set 0=loud(5)"), 1);
        due("cell, at a PLACE that is off besides", refused("head 0,5,-9", "set 0=cell(0)"), 1);
        due("put, at a PLACE that is off besides", refused("head 0,5,-9", "put 0=1"), 1);
        due("copy", refused("copy 0,5"), 1);
        due("turn", refused("turn 5"), 1);
        due("an ACT, at a PLACE that is off besides", played(1, "head 0,5,-9").act(3, 0, 0, 0, 0), 1);
        due("head", refused("head 0,5,1"), 0);
    }

    private static void aLoopOfLengthZero() {
        about("a LOOP of LENGTH 0");
        EchoStudio x = played(1, "loop 5,0", "drum 6,0", "head 0,5,0", "head 1,6,0", "set 8=sum(5)+sum(6)", "set 9=loud(5)+loud(6)", "set 7=length(6)");
        due("of SINGLES", x.loop(5, 0), 0);
        due("of DOUBLES", x.loop(6, 0), 1);
        due("its LENGTH", x.loop(5, 1), 0);
        due("its LENGTH", x.loop(6, 1), 0);
        due("cell(5, 0)", x.cell(5, 0), 0);
        due("cell(5, -1)", x.cell(5, -1), 0);
        due("peak", x.peak(5), 0);
        due("peak", x.peak(6), 0);
        due("sum", x.dial(8), 0);
        due("loud", x.dial(9), 0);
        due("length", x.dial(7), 0);
        due("no refusal", x.count(9), 0);
        due("an ACT: OFF", x.act(3, 0, 0, 0, 0), 2);
        due("an ACT: OFF", x.act(13, 1, 1, 1, 0), 2);
        due("of the other sort: MISSING", x.act(3, 1, 0, 0, 0), 1);
        due("put: OFF", refused("loop 0,0", "put 0=1"), 2);
        due("cell: OFF", refused("loop 0,0", "set 0=cell(0)"), 2);
        x = played(1, "loop 5,0", "copy 6,5", "turn 6", "turn 5", "turn 5");
        due("a copy", x.loop(6, 0), 1);
        due("a copy", x.loop(6, 1), 0);
        due("turned twice", x.loop(5, 0), 0);
        due("made", x.count(10), 5);
        due("CELLS made", x.count(11), 0);
    }

    private static void aLoopOfLengthThreeHundred() {
        about("a LOOP of LENGTH 300");
        EchoStudio x = played(1, "loop 5,300", "head 0,5,299", "put 0=7", "drum 6,300", "head 1,6,299", "put 1=8", "copy 7,6", "turn 5");
        due("its LENGTH", x.loop(5, 1), 300);
        due("the last CELL, turned", x.cell(5, 299), bits(7.0));
        due("behind it", x.cell(5, 300), 0);
        due("the last CELL", x.cell(6, 299), bits(8.0));
        due("copied", x.cell(7, 299), bits(8.0));
        due("the first", x.cell(7, 0), 0);
        due("peak", x.peak(7), bits(8.0));
        due("CELLS made", x.count(11), 1200);
        due("no refusal", x.count(9), 0);
        x = played(1, "loop 5,300", "head 0,5,299", "put 0=7", "put 0=8");
        due("put behind the last: OFF", x.count(9), 2);
        due("the HEAD stays", x.head(0, 1), 300);
        due("the last CELL stays", x.cell(5, 299), bits(7f));
        x = played(1, "loop 5,300", "head 0,5,299");
        due("FADE of the last CELL", x.act(3, 0, 0, 0, 0), 0);
        due("FADE behind it: OFF", x.act(3, 0, 0, 0, 0), 2);
    }

    private static void newCellsAreZero() {
        about("new CELLS are 0");
        EchoStudio x = played(1, "loop 0,2", "put 0=9", "put 0=8", "loop 0,3", "drum 1,2", "head 1,1,0", "put 1=9", "drop 1", "drum 1,2");
        for (int i = 0; i < 3; i++) {
            due("of a LOOP made anew", x.cell(0, i), 0);
            due("of one that was dropped", x.cell(1, i), 0);
        }
        due("the HEADS stay", x.head(0, 1), 2);
        due("the HEADS stay", x.head(1, 1), 1);
    }

    private static void aLoopThatTakesAnothersPlace() {
        about("the one that was there is gone");
        EchoStudio x = played(1, "loop 0,4", "drum 0,2");
        due("its sort", x.loop(0, 0), 1);
        due("its LENGTH", x.loop(0, 1), 2);
        x = played(1, "drum 0,2", "loop 1,4", "head 1,1,0", "put 1=3", "copy 0,1");
        due("a copy's sort", x.loop(0, 0), 0);
        due("a copy's LENGTH", x.loop(0, 1), 4);
        due("a copy's CELLS", x.cell(0, 0), bits(3f));
        x = played(1, "loop 1,2", "head 1,1,0", "put 1=3", "put 1=4", "copy 1,1");
        due("a copy of itself", x.cell(1, 1), bits(4f));
        due("is a new one", x.count(10), 2);
        x = played(1, "loop 0,2", "loop 0,-1");
        due("SIZE: it stays", x.loop(0, 1), 2);
        x = played(1, "loop 0,2", "drum 0,301");
        due("ROOM: it stays", x.loop(0, 0), 0);
    }

    private static void theFirstAndTheLastOfEach() {
        about("the first and the last, and those next to them");
        due("LOOP 0", played(1, "loop 0,1").loop(0, 1), 1);
        due("LOOP 11", played(1, "drum 11,1").loop(11, 1), 1);
        due("LOOP -1", refused("loop -1,1"), 8);
        due("LOOP 12", refused("drum 12,1"), 8);
        due("HEAD 9 over LOOP 11", played(1, "head 9,11,1").head(9, 0), 11);
        due("HEAD -1", refused("head -1,0,1"), 8);
        due("HEAD 10", refused("head 10,0,1"), 8);
        due("over LOOP -1", refused("head 0,-1,1"), 8);
        due("over LOOP 12", refused("head 0,12,1"), 8);
        due("DIAL 9", played(1, "set 9=1").dial(9), bits(1.0));
        due("DIAL -1", refused("set -1=1"), 8);
        due("DIAL 10", refused("set 10=1"), 8);
        due("SLOT 11", played(1, "plug 11,0,0,0,0,0,1,0").slot(11, 0), 0);
        due("SLOT -1", refused("pull -1"), 8);
        due("SLOT 12", refused("pull 12"), 8);
        due("scene 3", refused("scene 3", "recall 3"), 0);
        due("scene -1", refused("scene -1"), 8);
        due("scene 4", refused("scene 4"), 8);
    }
}
