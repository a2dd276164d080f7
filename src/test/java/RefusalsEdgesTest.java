/** The edges of REFUSALS and WORN: which on takes which refusal, who FALLS, and the 2,499th and the 2,500th. */
public final class RefusalsEdgesTest extends Probe {
    private static final String[] WORDS = {"missing", "off", "size", "room", "zero", "full", "deep", "none"};
    private static final String[] REFUSED = {"turn 9", "put 0=1", "loop 1,-1", "loop 1,301", "set 9=1/0", "start rest", "do deeper", "drop 99"};

    public static void main(String[] args) {
        eachWordIsForItsKind();
        anyIsForAll();
        theFirstSuchOn();
        aTryInATry();
        aTryInAnOn();
        aTryIsNotAroundItsOns();
        aTryAroundADo();
        aTryAroundSeveralDoes();
        theNearestOne();
        aTryIsNotAroundWhatItStarts();
        aTryWhoseLinesAreOver();
        whereItGoesOn();
        conditionsThatAreRefused();
        aTryInAWhile();
        withoutAnOnThePlayerFalls();
        whatIsCounted();
        theTwoThousandFiveHundredthByAct();
        theTwoThousandFiveHundredthOfABox();
        itsAnswerIsGiven();
        theTwoThousandFiveHundredthOfALine();
        theTwoThousandFiveHundredthWithAnEmptyOn();
        theTwoThousandFiveHundredthWithoutAnOn();
        theTwoThousandFiveHundredthOfABurst();
        playersWhenItIsWorn();
        theSameTickWhenItIsWorn();
        ticksGoOnWhenItIsWorn();
        readWhenItIsWorn();
        finish();
    }

    private static String told(int digit) {
        return "set 7=dial(7)*10+" + digit;
    }

    /** A studio where each of the eight refusals can be met: LOOP 0 without CELLS, LOOP 9 not there, eight PLAYERS. */
    private static EchoStudio meeting(String... some) {
        EchoStudio x = studio(part("a", lines("loop 0,0") + String.join("\n", some)), part("rest", "wait 400"), part("deeper", "do deeper"));
        x.play(0);
        for (int i = 0; i < 7; i++) {
            x.play(1);
        }
        x.run(1);
        return x;
    }

    private static void eachWordIsForItsKind() {
        about("an on for each refusal");
        for (int kind = 0; kind < 8; kind++) {
            for (int word = 0; word < 8; word++) {
                EchoStudio x = meeting("try", REFUSED[kind], "on " + WORDS[word], "set 8=hurt", "end", "wait 9");
                due(REFUSED[kind] + ": its kind", x.count(9), kind + 1);
                due(REFUSED[kind] + ", on " + WORDS[word], x.dial(8), kind == word ? bits(kind + 1.0) : 0);
                due("taken", x.count(7), kind == word ? 1 : 0);
                due("FELL", x.count(8), kind == word ? 0 : 1);
                due("PLAYERS", x.count(2), kind == word ? 8 : 7);
            }
        }
    }

    private static void anyIsForAll() {
        about("any is for all");
        for (int kind = 0; kind < 8; kind++) {
            EchoStudio x = meeting("try", REFUSED[kind], "on any", "set 8=hurt", "end");
            due(REFUSED[kind], x.dial(8), bits(kind + 1.0));
            due("taken", x.count(7), 1);
        }
    }

    private static void theFirstSuchOn() {
        about("the first such");
        due("any ahead of it", played(1, "try", "drop 99", "on any", told(1), "on none", told(2), "end").dial(7), bits(1.0));
        due("it ahead of any", played(1, "try", "drop 99", "on none", told(1), "on any", told(2), "end").dial(7), bits(1.0));
        due("it twice", played(1, "try", "drop 99", "on none", told(1), "on none", told(2), "end").dial(7), bits(1.0));
        due("others ahead", played(1, "try", "drop 99", "on off", told(1), "on zero", told(2), "on none", told(3), "on any", told(4), "end").dial(7), bits(3.0));
        due("any at last", played(1, "try", "drop 99", "on off", told(1), "on zero", told(2), "on any", told(3), "end").dial(7), bits(3.0));
        due("none of them is gone into behind it", played(1, "try", "drop 99", "on none", "on any", told(2), "end", told(5)).dial(7), bits(5.0));
        due("any twice", played(1, "try", "drop 99", "on any", "on any", told(2), "end", told(5)).dial(7), bits(5.0));
    }

    private static void aTryInATry() {
        about("a try in a try");
        due("the inner one has an on", played(1, "try", "try", "drop 99", "on none", told(1), "end", told(2), "on none", told(3), "end", told(4)).dial(7),
                bits(124.0));
        due("the inner one has none for it", played(1, "try", "try", "drop 99", "on off", told(1), "end", told(2), "on none", told(3), "end", told(4)).dial(7),
                bits(34.0));
        due("the inner one has no on", played(1, "try", "try", "drop 99", "end", told(2), "on any", told(3), "end", told(4)).dial(7), bits(34.0));
        due("ahead of the inner one", played(1, "try", "drop 99", "try", "on any", told(1), "end", "on any", told(3), "end").dial(7), bits(3.0));
        due("behind the inner one", played(1, "try", "try", "on any", told(1), "end", "drop 99", "on any", told(3), "end").dial(7), bits(3.0));
        due("neither has one", played(1, "try", "try", "drop 99", "on off", "end", "on zero", "end", told(4)).count(8), 1);
        due("three", played(1, "try", "try", "try", "drop 99", "end", "on off", "end", "on any", told(1), "end", told(2)).dial(7), bits(12.0));
        due("in an if, in a while", played(1, "try", "while 0<1", "if 0<1", "drop 99", "else", "end", "end", "on any", told(1), "end", told(2)).dial(7),
                bits(12.0));
    }

    private static void aTryInAnOn() {
        about("a try in an on");
        due("it takes it", played(1, "try", "drop 99", "on any", told(1), "try", "set 9=1/0", "on zero", told(2), "end", told(3), "end", told(4)).dial(7),
                bits(1234.0));
        due("it has none for it", played(1, "try", "try", "drop 99", "on any", "try", "set 9=1/0", "on off", told(2), "end", told(3), "end", "on zero",
                told(5), "end", told(6)).dial(7), bits(56.0));
        EchoStudio x = played(1, "try", "drop 99", "on any", "try", "set 9=1/0", "on off", told(2), "end", "end", told(4));
        due("nor has one around it: it FALLS", x.count(8), 1);
        due("one was taken", x.count(7), 1);
    }

    private static void aTryIsNotAroundItsOns() {
        about("a try is not around its ons");
        EchoStudio x = played(1, "try", "drop 99", "on any", told(1), "drop 99", told(2), "end", told(3));
        due("it FALLS", x.count(8), 1);
        due("the first was taken", x.count(7), 1);
        due("two refusals", x.count(6), 2);
        due("nothing behind", x.dial(7), bits(1.0));
        x = played(1, "try", "drop 99", "on none", "set 9=1/0", "on zero", told(2), "end");
        due("nor for its next on", x.count(8), 1);
        x = played(1, "try", "try", "drop 99", "on any", "set 9=1/0", "end", told(1), "on zero", "set 8=hurt", "end", told(2));
        due("the one around it takes it", x.dial(7), bits(2.0));
        due("hurt", x.dial(8), bits(5.0));
        due("both were taken", x.count(7), 2);
    }

    private static void aTryAroundADo() {
        about("a try around a do");
        EchoStudio x = studio(part("a", "try", "do b", told(1), "on none", told(2), "wait 1", "end", told(3)), part("b", told(4), "drop 99", told(5)));
        x.play(0);
        x.run(1);
        due("it goes on at its on", x.dial(7), bits(42.0));
        due("in PART 0", x.player(0, 0), 0);
        due("in one PART", x.player(0, 1), 1);
        due("the PART of the refused LINE", x.met(0, 2), 101);
        x.run(1);
        due("then behind that try's end", x.dial(7), bits(423.0));
        due("it ended", x.count(2), 0);
        x = studio(part("a", "try", "drop 99", "on none", "do b", "end", told(3)), part("b", "drop 99"));
        x.play(0);
        x.run(1);
        due("a do in its on", x.count(8), 1);
        x = studio(part("a", "try", "end", "do b", "try", "on any", told(1), "end"), part("b", "drop 99"));
        x.play(0);
        x.run(1);
        due("a do beside it", x.count(8), 1);
    }

    private static void aTryAroundSeveralDoes() {
        about("around the do of a PART, and so on");
        EchoStudio x = studio(part("a", "try", "do b", "on none", told(1), "wait 1", "end"), part("b", "try", "do c", "on off", told(2), "end"),
                part("c", "try", "on none", told(3), "end", "do d"), part("d", "try", "set 9=1", "drop 99", "on zero", told(4), "end"));
        x.play(0);
        x.run(1);
        due("the first PART's", x.dial(7), bits(1.0));
        due("in one PART again", x.player(0, 1), 1);
        due("the LINE's PART", x.met(0, 2), 103);
        x = studio(part("a", "try", "do b", "on none", told(1), "end"), part("b", "try", "do c", "on any", told(2), "wait 1", "end", told(3)), part("c", "drop 99"));
        x.play(0);
        x.run(1);
        due("the nearest", x.dial(7), bits(2.0));
        due("in two PARTS", x.player(0, 1), 2);
        due("its PART", x.player(0, 0), 1);
    }

    private static void theNearestOne() {
        about("the nearest try, in this PART ahead of around its do");
        EchoStudio x = studio(part("a", "try", "do b", "on none", told(1), "end"), part("b", "try", "try", "drop 99", "on off", told(2), "end", "on any", told(3), "end"));
        x.play(0);
        x.run(1);
        due("this PART's outer one", x.dial(7), bits(3.0));
        x = studio(part("a", "try", "try", "do b", "on off", told(1), "end", "on none", told(2), "end"), part("b", "drop 99"));
        x.play(0);
        x.run(1);
        due("the do's outer one", x.dial(7), bits(2.0));
        x = studio(part("a", "if dial(6)<3", "set 6=dial(6)+1", "try", "do a", "on off", told(1), "on none", told(2), "end", "set 6=dial(6)-1", "else", "drop 99", "end"));
        x.play(0);
        x.run(1);
        due("of the same PART in itself the innermost", x.dial(7), bits(2.0));
        due("the others go on", x.dial(6), 0);
    }

    private static void aTryIsNotAroundWhatItStarts() {
        about("a try is not around what it starts");
        EchoStudio x = studio(part("a", "try", "start b", "wait 3", "on any", told(1), "end"), part("b", "drop 99"));
        x.play(0);
        x.run(2);
        due("it FALLS", x.count(8), 1);
        due("the other one waits", x.count(2), 1);
        due("nothing is taken", x.count(7), 0);
        due("its on is not gone into", x.dial(7), 0);
    }

    private static void aTryWhoseLinesAreOver() {
        about("a try whose LINES are over goes on behind its end");
        EchoStudio x = played(1, "try", told(1), "on none", told(2), "on any", told(3), "end", told(4), "drop 99");
        due("not into its ons", x.dial(7), bits(14.0));
        due("and it is over", x.count(8), 1);
        due("nothing taken", x.count(7), 0);
    }

    private static void whereItGoesOn() {
        about("it goes on at that on, with its LINES, then behind that try's end");
        EchoStudio x = played(1, "try", told(1), "drop 99", told(2), "on off", told(3), "on none", told(4), told(5), "on any", told(6), "end", told(7));
        due("on and behind", x.dial(7), bits(1457.0));
        due("LINES: try, 1, the refused one, on, 4, 5, 7", x.count(3), 7);
        x = played(1, "try", "while 0<1", "if 0<1", "drop 99", "end", "end", "on any", "end", told(7));
        due("out of blocks, through an empty on", x.dial(7), bits(7.0));
        x = played(1, "while dial(6)<3", "try", "set 6=dial(6)+1", "drop 99", "on none", "end", "end", told(7));
        due("an empty on at a while's end", x.dial(7), bits(7.0));
        due("three times taken", x.count(7), 3);
    }

    private static void conditionsThatAreRefused() {
        about("a COND that is refused");
        EchoStudio x = played(1, "try", "if 1/0<1", told(1), "else", told(2), "end", "on zero", told(3), "end");
        due("neither way", x.dial(7), bits(3.0));
        x = played(1, "try", "while dial(6)<1/(1-dial(6))", "set 6=dial(6)+1", "end", told(2), "on zero", told(3), "end");
        due("a while's second time", x.dial(7), bits(3.0));
        due("after its first", x.dial(6), bits(1.0));
        x = played(1, "if cell(99)=1", told(1), "else", told(2), "end", told(3));
        due("without an on", x.count(8), 1);
        due("without an on", x.dial(7), 0);
    }

    private static void aTryInAWhile() {
        about("a try in a while, and a while in a try");
        EchoStudio x = played(1, "while dial(6)<4", "set 6=dial(6)+1", "try", "set 9=1/(dial(6)-2)", told(1), "on zero", told(5), "end", "end");
        due("each time anew", x.dial(7), bits(1511.0));
        x = played(1, "try", "while dial(6)<4", "set 6=dial(6)+1", "set 9=1/(dial(6)-2)", told(1), "end", told(2), "on zero", told(5), "end", told(3));
        due("it is left", x.dial(7), bits(153.0));
    }

    private static void withoutAnOnThePlayerFalls() {
        about("without one the PLAYER FALLS");
        for (int kind = 0; kind < 8; kind++) {
            EchoStudio x = meeting(told(1), REFUSED[kind], told(2));
            due(REFUSED[kind], x.dial(7), bits(1.0));
            due("it FELL", x.count(8), 1);
            due("it is gone", x.count(2), 7);
            due("its kind", x.count(9), kind + 1);
            due("nothing took it", x.count(7), 0);
            due("the next one is the first", x.player(0, 0), 1);
        }
    }

    private static void whatIsCounted() {
        about("what is counted of a refusal");
        EchoStudio x = studio(part("a", "plug 3,3,9,9,9,9,1,0", "head 9,11,0", "try", "drop 99", "on none", "end", "try", "burst 3,9,9,9,9,1", "on missing", "end", "drop 99"));
        x.play(0);
        x.run(1);
        due("of ACTS: the box's", x.count(5), 1);
        due("of LINES", x.count(6), 3);
        due("taken", x.count(7), 2);
        due("FELL", x.count(8), 1);
        due("the latest: the box's", x.count(9), 1);
        due("ACTS", x.count(4), 2);
        int[][] want = {{0, 1, 3}, {0, 8, 100}, {0, 1, 100}, {0, 8, 100}};
        for (int i = 0; i < 4; i++) {
            for (int what = 0; what < 3; what++) {
                due("met(" + i + ", " + what + ")", x.met(i, what), want[i][what]);
            }
        }
        due("no fifth", x.met(4, 0), NONE);
    }

    /**
     * A studio in which there were so many refusals (2,490 or more) of ACTS, at NOW 250, with these PARTS as its SCORE.
     * HEAD 9 is over LOOP 11, which is not there; 22 LINES were done.
     */
    private static EchoStudio nearly(int refusals, String... parts) {
        StringBuilder main = new StringBuilder("head 9,11,0\n");
        for (int s = 0; s < 10; s++) {
            main.append("plug ").append(s).append(",3,9,9,9,9,1,0\n");
        }
        main.append("wait 249\n");
        for (int s = 0; s < 10; s++) {
            main.append("pull ").append(s).append("\n");
        }
        EchoStudio x = studio("part main\n" + main + "end\n");
        x.play(0);
        due("run", x.run(250), 250);
        for (int i = 2490; i < refusals; i++) {
            due("act", x.act(3, 9, 9, 9, 9), 1);
        }
        due("refusals", x.count(5), refusals);
        due("ACTS", x.count(4), refusals);
        due("LINES", x.count(3), 22);
        due("read", readText(x, String.join("", parts)), 0);
        return x;
    }

    private static void theTwoThousandFiveHundredthByAct() {
        about("the 2,499th and the 2,500th, of act()");
        EchoStudio x = nearly(2498, part("a", told(1)));
        due("the 2,499th", x.act(3, 9, 9, 9, 9), 1);
        due("refusals", x.count(5), 2499);
        due("play gives one", x.play(0), 1);
        x.run(1);
        due("a LINE is done", x.dial(7), bits(1.0));
        due("the 2,500th is answered as ever", x.act(3, 9, 9, 9, 9), 1);
        due("the 2,500th is counted", x.count(5), 2500);
        due("as an ACT too", x.count(4), 2500);
        due("it moved its HEAD", x.head(9, 1), 2500);
        due("act() gives NONE", x.act(3, 9, 9, 9, 9), NONE);
        due("it is not counted", x.count(4), 2500);
        due("nor refused", x.count(5), 2500);
        due("nothing happens", x.head(9, 1), 2500);
        due("play() gives NONE", x.play(0), NONE);
        due("no PLAYER", x.count(2), 0);
        due("run() goes on", x.run(3), 3);
        due("NOW", x.count(0), 254);
        due("the latest", x.met(0, 2), NONE);
        due("the latest", x.met(0, 0), 251);
        due("the one ahead of it", x.met(1, 0), 250);
        due("its SLOT, of 30 the last", x.met(29, 2), 0);
        due("act() of what there is none such", x.act(16, 0, 0, 0, 0), NONE);
        x = nearly(2499, part("a", "loop 0,5", "head 0,0,0"));
        x.play(0);
        x.run(1);
        due("an ACT that is not refused", x.act(3, 0, 0, 0, 0), 0);
        due("it wears nothing", x.act(3, 0, 0, 0, 0), 0);
        due("the 2,500th", x.act(3, 9, 9, 9, 9), 1);
        due("one that would not be refused", x.act(3, 0, 0, 0, 0), NONE);
        due("its HEAD stays", x.head(0, 1), 2);
    }

    private static void theTwoThousandFiveHundredthOfABox() {
        about("the 2,500th of a box, in the midst of the SLOTS");
        EchoStudio x = nearly(2498, part("a", "head 8,11,0", "head 7,11,0", "plug 2,3,9,9,9,9,1,0", "plug 5,3,8,9,9,9,1,0", "plug 6,3,7,9,9,9,1,0", "glide 1,9,3"));
        x.play(0);
        due("run", x.run(1), 1);
        due("SLOT 2: the 2,499th", x.slot(2, 7), 1);
        due("SLOT 5: the 2,500th", x.slot(5, 7), 1);
        due("SLOT 6: no ACT", x.slot(6, 7), 0);
        due("its HEAD stays", x.head(7, 1), 0);
        due("ACTS", x.count(4), 2500);
        due("refusals", x.count(5), 2500);
        due("DIALS GLIDE on", x.dial(1), bits(3.0));
        due("NOW", x.count(0), 251);
        due("run", x.run(5), 5);
        due("no ACT", x.slot(2, 7), 1);
        due("no ACT", x.head(8, 1), 1);
        due("DIALS GLIDE to their end", x.dial(1), bits(9.0));
        due("the box stays", x.slot(6, 0), 3);
        due("where", x.met(0, 2), 5);
    }

    private static EchoStudio wornByABox(int answer) {
        EchoStudio x = nearly(2499, part("a", "set 4=8", "glide 4,80,9", "loop 0,3", "head 0,0,7", "plug 4,3,0,9,9,4,1," + answer, "plug 5,3,9,9,9,9,1,0"), part("b"));
        x.play(0);
        due("ticks", x.run(3), answer == 4 ? 1 : 3);
        due("refusals", x.count(5), 2500);
        due("SLOT 5 had no turn", x.slot(5, 7), 0);
        return x;
    }

    private static void itsAnswerIsGiven() {
        about("that one's ANSWER is given");
        due("PASS", wornByABox(0).head(0, 1), 8);
        due("HOME", wornByABox(1).head(0, 1), 0);
        due("ROUND", wornByABox(2).head(0, 1), 2);
        due("PULL", wornByABox(3).slot(4, 0), NONE);
        EchoStudio x = wornByABox(4);
        due("HALT: NOW", x.count(0), 251);
        due("it HALTS no more", x.run(7), 7);
        x = wornByABox(5);
        due("HALF", x.dial(4), bits(4.0));
        due("it GLIDES no more", x.count(12), 0);
        x = wornByABox(100);
        due("a PLAYER of PART 0 began", x.count(2), 1);
        due("it is at its first LINE", x.player(0, 0), 0);
        due("it does none", x.player(0, 3), 0);
        x = wornByABox(101);
        due("one of an empty PART ended", x.count(2), 0);
        due("it did not FALL", x.count(8), 0);
        due("no such PART", wornByABox(129).count(2), 0);
    }

    private static void theTwoThousandFiveHundredthOfALine() {
        about("the 2,499th and the 2,500th of a LINE");
        String[] some = {"try", "drop 99", told(1), "on none", told(2), "end", told(3)};
        EchoStudio x = nearly(2498, part("a", some));
        x.play(0);
        x.run(1);
        due("the 2,499th: its on, and its LINES", x.dial(7), bits(23.0));
        due("LINES: try, drop, on, 2, 3", x.count(3), 27);
        due("taken", x.count(7), 1);
        due("not worn", x.play(0), 1);
        x.run(1);
        due("the 2,500th: its on is taken", x.count(7), 2);
        due("it is no LINE any more", x.count(3), 29);
        due("try, drop", x.player(0, 3), 2);
        due("nor are those in it", x.dial(7), bits(23.0));
        due("refusals of LINES", x.count(6), 2);
        due("of ACTS", x.count(5), 2498);
        due("the PLAYER is there", x.count(2), 1);
        due("none FELL", x.count(8), 0);
        due("its PART", x.player(0, 0), 0);
        due("it doesn't wait", x.player(0, 2), NONE);
        due("the latest", x.count(9), 8);
        due("where", x.met(0, 2), 100);
        due("act()", x.act(3, 9, 9, 9, 9), NONE);
        due("play()", x.play(0), NONE);
        due("run()", x.run(500), 500);
        due("no more LINES", x.count(3), 29);
        due("it stays", x.count(2), 1);
        x = nearly(2499, part("a", "try", "do b", "on any", told(2), "end"), part("b", "do c"), part("c", "drop 99"));
        x.play(0);
        x.run(2);
        due("an on around its do", x.player(0, 0), 0);
        due("in one PART again", x.player(0, 1), 1);
        due("LINES: try, do, do, drop", x.player(0, 3), 4);
        due("taken", x.count(7), 1);
    }

    private static void theTwoThousandFiveHundredthWithAnEmptyOn() {
        about("the 2,500th of a LINE, whose on has no LINES: it is taken, but is no LINE any more");
        String[] some = {"try", "drop 99", "on any", "end"};
        EchoStudio x = nearly(2498, part("a", some));
        x.play(0);
        x.run(1);
        due("the 2,499th: try, drop, on", x.count(3), 25);
        due("it ended", x.count(2), 0);
        x.play(0);
        x.run(1);
        due("the 2,500th: try, drop", x.count(3), 27);
        due("taken", x.count(7), 2);
        due("nothing is behind it: it ended", x.count(2), 0);
        due("none FELL", x.count(8), 0);
        x = nearly(2499, part("a", "try", "drop 99", "on any", "end", told(1)));
        x.play(0);
        x.run(3);
        due("a LINE is behind it: it stays", x.count(2), 1);
        due("no LINE", x.dial(7), 0);
        x = nearly(2499, part("a", "do b", told(1)), part("b", some));
        x.play(0);
        x.run(1);
        due("it goes on behind its do", x.player(0, 0), 0);
        due("in one PART", x.player(0, 1), 1);
        due("do, try, drop", x.player(0, 3), 3);
        x.run(3);
        due("it stays there", x.count(2), 1);
        due("no LINE", x.dial(7), 0);
        x = nearly(2499, part("a", repeated("wait 0\n", 38) + String.join("\n", some)));
        x.play(0);
        x.run(1);
        due("forty LINES", x.count(3), 22 + 40);
        due("the fortieth was the 2,500th: it ended", x.count(2), 0);
        due("taken", x.count(7), 1);
    }

    private static void theTwoThousandFiveHundredthWithoutAnOn() {
        about("the 2,500th of a LINE without an on");
        EchoStudio x = nearly(2499, part("a", told(1), "drop 99", told(2)), part("b", told(3)));
        x.play(0);
        x.play(1);
        x.run(1);
        due("it FALLS", x.count(8), 1);
        due("the next one does no LINE", x.dial(7), bits(1.0));
        due("it stays at its first", x.count(2), 1);
        due("its PART", x.player(0, 0), 1);
        due("its LINES", x.player(0, 3), 0);
        x.run(9);
        due("as ever", x.count(2), 1);
    }

    private static void theTwoThousandFiveHundredthOfABurst() {
        about("the 2,500th of a burst");
        EchoStudio x = nearly(2499, part("a", "loop 0,5", "head 0,0,3", "burst 3,0,9,9,9,50", told(1)));
        x.play(0);
        x.run(1);
        due("its ACTS", x.count(4), 2502);
        due("its refusal is a LINE's", x.count(6), 1);
        due("no ACT's", x.count(5), 2499);
        due("OFF", x.count(9), 2);
        due("it moved", x.head(0, 1), 6);
        due("worn", x.act(3, 9, 9, 9, 9), NONE);
        due("it FELL", x.count(8), 1);
    }

    private static void playersWhenItIsWorn() {
        about("PLAYERS when it is WORN");
        EchoStudio x = nearly(2499, part("a", "wait 5"), part("b", "wait 5", told(1)), part("c", "wait 400"), part("d", "do a"), part("e", "do a", told(2)),
                part("f", "while 0<1", "end"), part("g"));
        for (int i = 0; i < 6; i++) {
            x.play(i);
        }
        x.run(1);
        int lines = x.count(3);
        due("LINES: 22, five waits, two does, 40 whiles", lines, 22 + 5 + 2 + 40);
        due("an empty PART's", x.play(6), 7);
        due("the 2,500th", x.act(3, 9, 9, 9, 9), 1);
        due("they wait", x.player(0, 2), 255);
        x.run(1);
        due("that of the empty PART ended", x.count(2), 6);
        x.run(3);
        due("NOW 255: they are there", x.count(2), 6);
        x.run(1);
        due("a and d ended behind their last LINES", x.count(2), 4);
        due("b, c, e, f", x.player(0, 0) * 1000 + x.player(1, 0) * 100 + x.player(2, 0) * 10 + x.player(3, 0), 1245);
        due("b waits no more", x.player(0, 2), NONE);
        due("c does", x.player(1, 2), 650);
        due("e is behind its do", x.player(2, 1), 1);
        due("f's LINES", x.player(3, 3), 40);
        due("no LINE", x.count(3), lines);
        due("none FELL", x.count(8), 0);
        x.run(500);
        due("c ended", x.count(2), 3);
        due("no LINE", x.dial(7), 0);
    }

    private static void theSameTickWhenItIsWorn() {
        about("the tick in which a LINE is the 2,500th");
        EchoStudio x = nearly(2499, part("a", told(1), "wait 1", "try", "drop 99", "on any", told(2), "end"), part("b", "plug 0,3,8,9,9,9,1,0", "loop 5,3", "head 8,5,0", "glide 1,4,4",
                "wait 1", told(3)), part("c", "wait 1"));
        x.play(1);
        x.play(0);
        x.play(1);
        x.play(2);
        x.run(1);
        due("an ACT", x.head(8, 1), 1);
        due("a STEP", x.dial(1), bits(1.0));
        x.run(1);
        due("b ahead of a had its turn", x.dial(7), bits(13.0));
        due("a, and the b behind it, are there; c ended", x.count(2), 2);
        due("no ACT in this tick", x.head(8, 1), 1);
        due("DIALS GLIDE", x.dial(1), bits(2.0));
        due("NOW", x.count(0), 252);
    }

    private static void ticksGoOnWhenItIsWorn() {
        about("TICKS go on");
        EchoStudio x = nearly(2499, part("a", "glide 3,500,500", "wait 1", "glide 4,1,1"));
        x.play(0);
        x.run(1);
        due("the 2,500th", x.act(3, 9, 9, 9, 9), 1);
        due("run(0)", x.run(0), 0);
        due("run(501)", x.run(501), NONE);
        due("run(-1)", x.run(-1), NONE);
        due("run(498)", x.run(498), 498);
        due("it GLIDES", x.dial(3), bits(499.0));
        due("one", x.count(12), 1);
        due("run(1)", x.run(1), 1);
        due("it is there", x.dial(3), bits(500.0));
        due("none", x.count(12), 0);
        due("NOW", x.count(0), 750);
    }

    private static void readWhenItIsWorn() {
        about("feed, back and read when it is WORN");
        EchoStudio x = nearly(2500, part("a", told(1)), part("b"));
        due("read was done", x.count(1), 2);
        due("a fault", readText(x, "\n@"), 17);
        due("PARTS", x.count(1), 2);
        due("a SCORE", readText(x, part("a")), 0);
        due("PARTS", x.count(1), 1);
        due("no PLAYER", x.play(0), NONE);
        due("NONE for no such PART too", x.play(7), NONE);
        due("feed", x.feed(1, 2, 3, 4, 5), 20);
        due("back", x.back(20), 0);
    }
}
