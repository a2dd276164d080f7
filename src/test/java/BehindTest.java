/** Calls behind other calls: longer runs, in which what one call leaves is what the next ones begin with. */
public final class BehindTest extends Probe {
    public static void main(String[] args) {
        aSecondScore();
        faultyTextsWhilePlaying();
        runsBehindAHalt();
        actsBetweenTicks();
        playersOfAnswers();
        loopsThatChangeUnderABox();
        behindTheLastRefusalOfLines();
        finish();
    }

    /** The three answers of met() for each refusal, the latest first, and that there is none behind them. */
    private static void dueMet(EchoStudio x, int[]... want) {
        for (int i = 0; i < want.length; i++) {
            for (int what = 0; what < 3; what++) {
                due("met(" + i + ", " + what + ")", x.met(i, what), want[i][what]);
            }
        }
        due("no more refusals", x.met(want.length, 0), NONE);
    }

    private static void duePlaces(EchoStudio x, int first, int second) {
        due("PLACE of HEAD 0", x.head(0, 1), first);
        due("PLACE of HEAD 1", x.head(1, 1), second);
    }

    private static void aSecondScore() {
        about("a second read() with a box on the desk and HEADS moved");
        EchoStudio x = studio(part("a", "drum 0,6", "loop 1,3", "put 0=1", "put 0=2", "put 0=3", "head 0,0,0", "head 1,1,0", "set 0=0.5", "glide 1,10,5",
                "scene 2", "plug 3,0,1,0,0,0,1,101", "wait 50"), part("b", "set 8=dial(8)+1", "wait 60"));
        x.play(0);
        x.run(2);
        for (int times = 0; times < 2; times++) {
            due("a fault: the second PART's NAME", readText(x, part("a", "set 0=1") + part("a")), 16 * 3 + 3);
            due("PARTS", x.count(1), 2);
            due("it waits on", x.player(0, 2), 50);
            duePlaces(x, 2, 2);
            due("it GLIDES on", x.dial(1), bits(4.0));
        }
        due("a SCORE", readText(x, part("x", "recall 2", "set 9=place(0)+10*place(1)")), 0);
        due("PARTS", x.count(1), 1);
        due("the PLAYER is gone", x.count(2), 0);
        due("the PLAYER is gone", x.player(0, 0), NONE);
        due("LINES", x.count(3), 12);
        due("NOW", x.count(0), 2);
        due("the box stays", x.slot(3, 6), 101);
        due("the LOOPS stay", x.loop(0, 1) * 10 + x.loop(1, 1), 63);
        duePlaces(x, 2, 2);
        due("it GLIDES on", x.count(12), 1);
        x.run(1);
        due("the third CELL", x.cell(1, 2), bits(3f));
        x.run(2);
        due("OFF twice: no such PART any more", x.count(2), 0);
        due("refused", x.slot(3, 7), 2);
        dueMet(x, new int[] {4, 2, 3}, new int[] {3, 2, 3});
        duePlaces(x, 5, 5);
        due("it is there", x.dial(1), bits(10.0));
        due("it GLIDES no more", x.count(12), 0);
        due("a PLAYER", x.play(0), 1);
        x.run(1);
        due("recalled ahead of the ACT", x.dial(9), 0);
        duePlaces(x, 1, 1);
        due("the DIAL as it was kept", x.dial(1), 0);
        due("and another", x.dial(0), bits(0.5));
        due("a third SCORE", readText(x, part("y") + part("z", "set 8=hurt+now")), 0);
        x.run(3);
        due("OFF in NOW 8: its PART 1 begins", x.player(0, 0), 1);
        due("it did nothing", x.dial(8), 0);
        x.run(1);
        due("NOW 9", x.dial(8), bits(9.0));
        due("that one ended, the next one began", x.count(2), 1);
        due("refused", x.slot(3, 7), 4);
    }

    private static void faultyTextsWhilePlaying() {
        about("faulty texts while a PLAYER is in the midst of its SCORE");
        EchoStudio x = studio(part("a", "do b", "set 1=dial(1)+100"), part("b", "while dial(0)<3", "set 0=dial(0)+1", "wait 1", "end"));
        x.play(0);
        x.run(1);
        due("do, while, set, wait", x.player(0, 3), 4);
        due("its end is missing", readText(x, "part q\nwhile 0<1\nset 5=5\nend\n"), 16 * 4 + 2);
        x.run(1);
        due("in two PARTS", x.player(0, 1), 2);
        due("while, set, wait", x.player(0, 3), 7);
        due("no such PART", readText(x, part("q", "do nobody", "set 5=5")), 5);
        x.run(1);
        due("while, set, wait", x.player(0, 3), 10);
        due("201 LINES", readText(x, "part q\n" + repeated("stop\n", 201) + "end\n"), 6);
        due("nothing at all", x.read(), 2);
        x.run(1);
        due("behind its do", x.dial(1), bits(100.0));
        due("three times", x.dial(0), bits(3.0));
        due("nothing of the others", x.dial(5), 0);
        due("while, set", x.count(3), 12);
        due("it ended", x.count(2), 0);
        due("PART 1 of the first text is there", x.play(1), 1);
    }

    private static void runsBehindAHalt() {
        about("run() behind a HALT");
        EchoStudio x = studio(part("a", "plug 0,3,2,9,9,9,3,4", "plug 1,3,3,9,9,9,1,101", "head 2,11,0", "head 3,11,0", "glide 0,8,4", "wait 2", "set 1=now"),
                part("b", "set 2=dial(2)+1"));
        x.play(0);
        due("NOW 0", x.run(10), 1);
        due("SLOT 1 had no turn", x.head(3, 1), 0);
        due("one PLAYER", x.count(2), 1);
        due("NOW 1, 2, 3", x.run(10), 3);
        due("it waited till 2", x.dial(1), bits(2.0));
        due("b in NOW 2 and 3", x.dial(2), bits(2.0));
        due("SLOT 1 in NOW 1 and 2", x.head(3, 1), 2);
        due("none is left", x.count(2), 0);
        due("it has GLIDED", x.dial(0), bits(8.0));
        due("act()", x.act(3, 3, 9, 9, 9), 1);
        dueMet(x, new int[] {4, 1, NONE}, new int[] {3, 1, 0}, new int[] {2, 1, 1}, new int[] {1, 1, 1}, new int[] {0, 1, 0});
        due("NOW 4", x.run(1), 1);
        due("b begins", x.count(2), 1);
        due("NOW 5", x.run(1), 1);
        due("b", x.dial(2), bits(3.0));
        due("NOW 6", x.run(500), 1);
        due("b, and no other", x.dial(2), bits(4.0));
        due("b, and no other", x.count(2), 0);
        due("another SCORE", readText(x, part("c", "pull 0")), 0);
        x.play(0);
        due("nothing HALTS", x.run(5), 5);
        due("NOW", x.count(0), 12);
        due("refusals", x.count(5), 13);
        due("no PART 1", x.count(2), 0);
    }

    private static void actsBetweenTicks() {
        about("act() between ticks");
        EchoStudio x = played(1, "drum 0,4", "put 0=1", "put 0=2", "put 0=4", "put 0=8", "head 0,0,0", "loop 1,4", "head 1,1,0", "set 0=1", "glide 0,9,4",
                "plug 0,0,1,0,0,0,1,2", "wait 1", "set 5=place(0)*10+place(1)", "wait 2");
        due("a STEP", x.dial(0), bits(3.0));
        due("TAPE", x.act(0, 1, 0, 0, 0), 0);
        due("the second CELL", x.cell(1, 1), bits(2f));
        duePlaces(x, 2, 2);
        due("PICK", x.act(15, 0, 1, 0, 0), 0);
        due("with the DIAL as it is", x.cell(0, 0), bits(4.0));
        duePlaces(x, 2, 1);
        due("SWELL", x.act(11, 1, 0, 0, 0), 0);
        due("3 and 2 * 4", x.dial(0), bits(11.0));
        due("it GLIDES on", x.count(12), 1);
        due("no such HEAD", x.act(0, 10, 0, 0, 0), NONE);
        x.run(1);
        due("the PLAYER sees what it moved", x.dial(5), bits(32.0));
        due("the box goes on there", x.cell(1, 2), bits(8f));
        due("a STEP", x.dial(0), bits(13.0));
        due("TAPE is OFF", x.act(0, 1, 0, 0, 0), 2);
        duePlaces(x, 5, 4);
        due("the box was not refused", x.slot(0, 7), 0);
        x.run(1);
        due("the box was refused", x.slot(0, 7), 1);
        duePlaces(x, 2, 1);
        dueMet(x, new int[] {2, 2, 0}, new int[] {2, 2, NONE});
        due("the PLAYER waits", x.player(0, 2), 3);
        x.run(1);
        due("round again", x.cell(1, 1), bits(4f));
        due("it ended", x.count(2), 0);
        due("what was told, in the last tick", x.dial(0), bits(9.0));
        due("ACTS", x.count(4), 8);
        due("refusals", x.count(5), 2);
    }

    private static void playersOfAnswers() {
        about("PLAYERS that begin by an ANSWER");
        EchoStudio x = studio(part("a", "head 2,11,0", "plug 0,3,2,9,9,9,1,101", "plug 1,3,2,9,9,9,2,102"),
                part("b", "try", "drop 99", "on any", "set 3=dial(3)*10+hurt", "end", "wait 3"), part("c", "set 4=dial(4)+hurt+1", "drop 99"));
        x.play(0);
        x.run(1);
        due("b and c", x.player(0, 0) * 10 + x.player(1, 0), 12);
        due("a third one by play()", x.play(2), 3);
        x.run(1);
        due("b took its refusal", x.dial(3), bits(8.0));
        due("both c's: nothing hurt them", x.dial(4), bits(2.0));
        due("both FELL", x.count(8), 2);
        due("b waits", x.player(0, 2), 4);
        due("try, drop, on, set, wait", x.player(0, 3), 5);
        due("the next b", x.player(1, 0), 1);
        due("it did nothing", x.player(1, 3), 0);
        dueMet(x, new int[] {1, 1, 0}, new int[] {1, 8, 102}, new int[] {1, 8, 102}, new int[] {1, 8, 101}, new int[] {0, 1, 1}, new int[] {0, 1, 0});
        x.run(1);
        due("b, b, b, c", x.count(2), 4);
        x.run(1);
        due("c FELL, b began", x.count(2), 4);
        x.run(1);
        due("the first b ended; b and c began", x.count(2), 5);
        due("the second b", x.player(0, 2), 5);
        due("the last one is a c", x.player(4, 0), 2);
        due("four b's", x.dial(3), bits(8888.0));
        due("taken", x.count(7), 4);
        due("refusals of LINES", x.count(6), 7);
        due("refusals of ACTS", x.count(5), 8);
        due("FELL", x.count(8), 3);
    }

    private static void loopsThatChangeUnderABox() {
        about("a LOOP that changes under a box");
        EchoStudio x = played(1, "loop 0,3", "put 0=1.5", "put 0=2.5", "put 0=3.5", "head 1,0,0", "set 0=2", "plug 0,3,1,9,9,0,1,0", "wait 1", "turn 0", "wait 1",
                "turn 0", "wait 1", "loop 0,1", "wait 1", "drop 0");
        due("FADE", x.cell(0, 0), bits(3f));
        x.run(1);
        due("of DOUBLES", x.cell(0, 0), bits(3.0));
        due("MISSING", x.count(9), 1);
        due("it moved", x.head(1, 1), 2);
        x.run(1);
        due("of SINGLES again", x.cell(0, 2), bits(7f));
        due("the second CELL was passed", x.cell(0, 1), bits(2.5f));
        x.run(1);
        due("OFF the new one's end", x.count(9), 2);
        due("its CELL", x.cell(0, 0), 0);
        x.run(1);
        due("not there", x.loop(0, 0), NONE);
        dueMet(x, new int[] {4, 1, 0}, new int[] {3, 2, 0}, new int[] {1, 1, 0});
        due("it moved each time", x.head(1, 1), 5);
        due("LOOPS made", x.count(10), 4);
        due("CELLS made", x.count(11), 10);
    }

    private static void behindTheLastRefusalOfLines() {
        about("calls behind the 2,500th refusal, of a LINE");
        EchoStudio x = studio(part("a", "while 0<1", "try", "drop 99", "on any", "end", "end"), part("b", "loop 0,300", "plug 0,3,0,9,9,9,1,0", "glide 1,100,50"));
        x.play(1);
        x.run(1);
        for (int i = 1; i <= 8; i++) {
            due("a PLAYER", x.play(0), i);
        }
        x.run(31);
        due("ten of each in each tick", x.count(6), 2480);
        due("LINES", x.count(3), 3 + 31 * 8 * 40);
        due("ACTS", x.head(0, 1), 32);
        due("the last tick in which a LINE is done", x.run(1), 1);
        due("refusals", x.count(6), 2500);
        due("all taken", x.count(7), 2500);
        due("the first one did forty", x.player(0, 3), 32 * 40);
        due("the second one's last on is no LINE", x.player(1, 3), 32 * 40 - 1);
        due("the third one did none", x.player(2, 3), 31 * 40);
        due("LINES", x.count(3), 3 + 31 * 8 * 40 + 40 + 39);
        due("no ACT in this tick", x.head(0, 1), 32);
        due("it GLIDES", x.dial(1), bits(66.0));
        due("act()", x.act(3, 0, 9, 9, 9), NONE);
        due("play()", x.play(1), NONE);
        due("run()", x.run(17), 17);
        due("all are there", x.count(2), 8);
        due("LINES", x.count(3), 3 + 31 * 8 * 40 + 40 + 39);
        due("it is there", x.dial(1), bits(100.0));
        due("it GLIDES no more", x.count(12), 0);
        due("ACTS", x.count(4), 32);
        due("where", x.met(29, 2), 100);
        due("its NOW", x.met(19, 0), 32);
        due("its NOW", x.met(20, 0), 31);
        due("31 are not kept", x.met(30, 0), NONE);
        due("read()", readText(x, part("z")), 0);
        due("none is there", x.count(2), 0);
        due("play()", x.play(0), NONE);
        due("run()", x.run(3), 3);
        due("the box stays", x.slot(0, 0), 3);
        due("it does no ACT", x.head(0, 1), 32);
        due("NOW", x.count(0), 53);
        due("feed", x.feed(0, 0, 0, 0, 0), 20);
        due("back", x.back(21), NONE);
    }
}
