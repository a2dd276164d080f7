/** The edges of PLAYERS and A TICK: eight and a ninth, twelve PARTS and a thirteenth, forty LINES and the next, waits. */
public final class PlayersEdgesTest extends Probe {
    public static void main(String[] args) {
        eightPlayersAndANinth();
        aNinthByStart();
        aPlaceThatBecameFreeInTheTick();
        thoseThatBeginInTheTick();
        thoseThatEndInTheTick();
        thoseThatFallInTheTick();
        inTheOrderInWhichTheyBegan();
        twelvePartsInOneAnother();
        theThirteenth();
        partsBehindOneAnotherAreNotDeep();
        deepIsTakenWhereItIs();
        aDoThatIsTheLastOneStaysBeneath();
        theFortiethLine();
        whatIsALine();
        theFortiethIsADo();
        theFortiethIsTheLastOfItsPart();
        theFortiethIsAWait();
        theFortiethIsAWhile();
        theFortiethIsRefused();
        fortyOfEachPlayer();
        anEmptyPart();
        aWaitThatIsTheLastOne();
        aWaitThatIsTheLastOneOfABlock();
        aWaitBelowOne();
        aWaitBeyondTheGreatestInt();
        tillWhenItWaits();
        aWaitThatIsRefused();
        stop();
        blocksWithoutLines();
        aPlayerBehindOthers();
        finish();
    }

    private static final String COUNT_UP = "set 7=dial(7)+1";

    private static String told(int digit) {
        return "set 7=dial(7)*10+" + digit;
    }

    private static void eightPlayersAndANinth() {
        about("eight PLAYERS and a ninth");
        EchoStudio x = studio(part("a", COUNT_UP, "wait 2"));
        for (int i = 1; i <= 8; i++) {
            due("play", x.play(0), i);
        }
        due("a ninth", x.play(0), NONE);
        due("eight", x.count(2), 8);
        due("player(7, 0)", x.player(7, 0), 0);
        due("player(8, 0)", x.player(8, 0), NONE);
        x.run(1);
        due("each of them plays", x.dial(7), bits(8.0));
        due("a ninth while they wait", x.play(0), NONE);
        x.run(1);
        due("eight still", x.count(2), 8);
        x.run(1);
        due("none", x.count(2), 0);
        due("play", x.play(0), 1);
    }

    private static void aNinthByStart() {
        about("FULL: eight are there");
        EchoStudio x = studio(part("a", "start b", "start b", "start b", "start b", "start b", "start b", "start b", "set 6=1", "start b", "set 6=2"),
                part("b", COUNT_UP));
        x.play(0);
        x.run(1);
        due("seven began, then FULL", x.count(9), 6);
        due("it was done till there", x.dial(6), bits(1.0));
        due("it FELL", x.count(8), 1);
        due("seven are there", x.count(2), 7);
        x.run(1);
        due("seven played", x.dial(7), bits(7.0));
        due("none is there", x.count(2), 0);
        x = studio(part("a", "try", "start b", "on full", "set 6=hurt", "end", told(1)), part("b", "wait 9"));
        for (int i = 0; i < 8; i++) {
            x.play(i < 7 ? 1 : 0);
        }
        x.run(1);
        due("on full", x.dial(6), bits(6.0));
        due("it goes on", x.dial(7), bits(1.0));
        due("seven wait", x.count(2), 7);
    }

    private static void aPlaceThatBecameFreeInTheTick() {
        about("a PLAYER that ended makes room in its tick");
        EchoStudio x = studio(part("a", "stop"), part("b", "start c", "wait 9"), part("c", told(3), "wait 9"));
        x.play(0);
        for (int i = 0; i < 7; i++) {
            x.play(i == 0 ? 1 : 2);
        }
        x.run(1);
        due("no FULL", x.count(9), 0);
        due("eight", x.count(2), 8);
        due("the new one is the last", x.player(7, 3), 0);
        x = studio(part("a", "drop 99"), part("b", "start c", "wait 9"), part("c", "wait 9"));
        x.play(0);
        for (int i = 0; i < 7; i++) {
            x.play(i == 0 ? 1 : 2);
        }
        x.run(1);
        due("one that FELL", x.count(9), 8);
        due("eight", x.count(2), 8);
        x = studio(part("a", "start c", "stop"), part("b", "wait 9"), part("c", "wait 9"));
        x.play(0);
        for (int i = 0; i < 7; i++) {
            x.play(1);
        }
        x.run(1);
        due("the one that starts is there still", x.count(9), 6);
        due("seven", x.count(2), 7);
    }

    private static void thoseThatBeginInTheTick() {
        about("those that begin in a tick");
        EchoStudio x = studio(part("a", told(1), "start b", told(2), "start b"), part("b", told(3), "start c"), part("c", told(4)));
        x.play(0);
        x.run(1);
        due("they do nothing in it", x.dial(7), bits(12.0));
        due("two", x.count(2), 2);
        due("no LINE", x.player(1, 3), 0);
        x.run(1);
        due("in the next one they do", x.dial(7), bits(1233.0));
        due("two that they began", x.count(2), 2);
        due("their PART", x.player(0, 0), 2);
        x.run(1);
        due("then those", x.dial(7), bits(123344.0));
        due("none", x.count(2), 0);
    }

    private static void thoseThatEndInTheTick() {
        about("those that end in the midst of a tick");
        EchoStudio x = studio(part("a", told(1)), part("b", told(2), "wait 1", told(3)));
        x.play(0);
        x.play(1);
        x.play(0);
        x.play(0);
        x.play(1);
        x.run(1);
        due("each has its turn", x.dial(7), bits(12112.0));
        due("two", x.count(2), 2);
        due("the first of them", x.player(0, 0), 1);
        due("the second", x.player(1, 0), 1);
        due("no third", x.player(2, 0), NONE);
        due("none FELL", x.count(8), 0);
        x.run(1);
        due("then they go on", x.dial(7), bits(1211233.0));
    }

    private static void thoseThatFallInTheTick() {
        about("those that fall in the midst of a tick");
        EchoStudio x = studio(part("a", told(1), "drop 99", told(9)), part("b", told(2), "wait 5"));
        x.play(0);
        x.play(1);
        x.play(0);
        x.play(1);
        x.run(1);
        due("each has its turn", x.dial(7), bits(1212.0));
        due("two FELL", x.count(8), 2);
        due("two are there", x.count(2), 2);
        due("LINES", x.count(3), 8);
        due("a falling one's LINES are gone with it", x.player(0, 3), 2);
    }

    private static void inTheOrderInWhichTheyBegan() {
        about("in the order in which they began");
        EchoStudio x = studio(part("a", "wait 1", told(1), "wait 1", told(1), "wait 1", told(1)), part("b", told(2), "start c", "wait 2", told(2)),
                part("c", told(3), "wait 2", told(3)));
        x.play(0);
        x.play(1);
        x.play(0);
        x.run(1);
        due("b", x.dial(7), bits(2.0));
        due("a, b, a, c", x.player(0, 0) * 1000 + x.player(1, 0) * 100 + x.player(2, 0) * 10 + x.player(3, 0), 102);
        x.run(1);
        due("a, a, c", x.dial(7), bits(2113.0));
        x.run(1);
        due("a, b, a", x.dial(7), bits(2113121.0));
        due("b ended", x.count(2), 3);
        due("a, a, c", x.player(0, 0) * 100 + x.player(1, 0) * 10 + x.player(2, 0), 2);
        x.play(1);
        x.run(1);
        due("a, a, c, b", x.dial(7), bits(21131211132.0));
    }

    /** PARTS a to l: each does the next, the last one has these LINES. */
    private static EchoStudio chain(int parts, String... last) {
        StringBuilder all = new StringBuilder();
        for (int i = 0; i < parts; i++) {
            char name = (char) ('a' + i);
            all.append(i < parts - 1 ? part("" + name, "do " + (char) (name + 1), COUNT_UP) : part("" + name, last));
        }
        return studio(all.toString());
    }

    private static void twelvePartsInOneAnother() {
        about("twelve PARTS in one another");
        EchoStudio x = chain(12, "wait 1", "set 6=1");
        x.play(0);
        x.run(1);
        due("twelve", x.player(0, 1), 12);
        due("the PART at which it is", x.player(0, 0), 11);
        due("LINES", x.player(0, 3), 12);
        due("no refusal", x.count(9), 0);
        x.run(1);
        due("the last one's", x.dial(6), bits(1.0));
        due("it goes on behind each do", x.dial(7), bits(11.0));
        due("it ended", x.count(2), 0);
    }

    private static void theThirteenth() {
        about("the thirteenth");
        EchoStudio x = chain(13, "set 6=1");
        x.play(0);
        x.run(1);
        due("DEEP", x.count(9), 7);
        due("in PART 11", x.met(0, 2), 111);
        due("it is not done", x.dial(6), 0);
        due("nothing behind a do is", x.dial(7), 0);
        due("it FELL", x.count(8), 1);
        due("LINES, the refused one too", x.count(3), 12);
        x = chain(13, "set 6=1");
        x.play(1);
        x.run(1);
        due("from the second on it is the twelfth", x.dial(6), bits(1.0));
        due("no refusal", x.count(9), 0);
    }

    private static void partsBehindOneAnotherAreNotDeep() {
        about("PARTS behind one another");
        EchoStudio x = studio(part("a", "while dial(7)<20", "do b", "end"), part("b", "do c"), part("c", COUNT_UP));
        x.play(0);
        x.run(3);
        due("twenty times", x.dial(7), bits(20.0));
        due("no refusal", x.count(9), 0);
        due("LINES", x.count(3), 81);
    }

    private static void deepIsTakenWhereItIs() {
        about("DEEP is taken in the twelfth, or around one of its does");
        EchoStudio x = studio(part("a", "try", COUNT_UP, "do a", "on deep", "set 6=dial(6)+1", "wait 1", "end", "set 5=dial(5)+1"));
        x.play(0);
        x.run(1);
        due("twelve", x.dial(7), bits(12.0));
        due("one on", x.dial(6), bits(1.0));
        due("it is in the twelfth", x.player(0, 1), 12);
        x.run(1);
        due("each goes on behind its try", x.dial(5), bits(12.0));
        due("it ended", x.count(2), 0);
        x = studio(part("a", "try", "do b", "on deep", "set 6=hurt", "wait 1", "end"), part("b", "do b"));
        x.play(0);
        x.run(1);
        due("the PART of the try", x.player(0, 0), 0);
        due("it is in one PART again", x.player(0, 1), 1);
        due("hurt", x.dial(6), bits(7.0));
        due("the PART of the LINE", x.met(0, 2), 101);
    }

    private static void aDoThatIsTheLastOneStaysBeneath() {
        about("a do that is its PART's last LINE");
        EchoStudio x = studio(part("a", "do b"), part("b", "do c"), part("c", "wait 1"));
        x.play(0);
        x.run(1);
        due("three in one another", x.player(0, 1), 3);
        x.run(1);
        due("all end at once", x.count(2), 0);
        due("three LINES", x.count(3), 3);
    }

    private static void theFortiethLine() {
        about("the fortieth LINE of a tick and the next one");
        EchoStudio x = played(1, repeated(COUNT_UP + "\n", 38) + COUNT_UP, "wait 1", COUNT_UP);
        due("39 and a wait", x.dial(7), bits(39.0));
        x.run(1);
        due("then the rest", x.dial(7), bits(40.0));
        x = played(1, repeated(COUNT_UP + "\n", 40) + COUNT_UP, COUNT_UP);
        due("40", x.dial(7), bits(40.0));
        due("player(0, 3)", x.player(0, 3), 40);
        due("count(3)", x.count(3), 40);
        due("it doesn't wait", x.player(0, 2), NONE);
        x.run(1);
        due("42", x.dial(7), bits(42.0));
        due("it ended", x.count(2), 0);
        x = played(1, repeated(COUNT_UP + "\n", 39) + COUNT_UP);
        due("40 and no more: it ended", x.count(2), 0);
        x = played(1, repeated(COUNT_UP + "\n", 80) + COUNT_UP);
        due("81", x.dial(7), bits(40.0));
        x.run(1);
        due("81", x.dial(7), bits(80.0));
        due("81", x.count(2), 1);
        x.run(1);
        due("81", x.dial(7), bits(81.0));
        due("81", x.count(2), 0);
    }

    private static void dueLines(int want, String... some) {
        due(String.join("|", some), played(1, some).count(3), want);
    }

    private static void whatIsALine() {
        about("what is a LINE");
        dueLines(0);
        dueLines(1, "set 0=1");
        dueLines(1, "drop 99");
        dueLines(1, "wait 1");
        dueLines(1, "wait 0");
        dueLines(1, "stop", "set 0=1");
        dueLines(1, "if 1<2", "end");
        dueLines(1, "if 2<1", "set 0=1", "else", "end");
        dueLines(2, "if 1<2", "set 0=1", "else", "set 0=2", "set 0=3", "end");
        dueLines(3, "if 2<1", "set 0=1", "else", "set 0=2", "set 0=3", "end");
        dueLines(1, "while 2<1", "set 0=1", "end");
        dueLines(5, "while dial(0)<2", "set 0=dial(0)+1", "end");
        dueLines(1, "try", "end");
        dueLines(1, "try", "on any", "set 0=1", "on off", "end");
        dueLines(2, "try", "set 0=1", "on any", "set 0=2", "end");
        dueLines(3, "try", "set 0=1/0", "on any", "end");
        dueLines(4, "try", "set 0=1/0", "on off", "set 0=1", "on zero", "set 0=2", "on any", "set 0=3", "end");
        dueLines(1, "do b", "end", "part b");
        dueLines(2, "do b", "end", "part b", "set 0=1");
        dueLines(1, "start b", "end", "part b", "set 0=1");
        dueLines(1, "while 1/0<1", "end");
        dueLines(1, "if dial(99)=1", "end");
    }

    private static void theFortiethIsADo() {
        about("the fortieth LINE is a do");
        EchoStudio x = played(1, repeated(COUNT_UP + "\n", 39) + "do b", "end", "part b", "set 6=1");
        due("it is in that PART", x.player(0, 0), 1);
        due("two", x.player(0, 1), 2);
        due("not done", x.dial(6), 0);
        x = played(1, repeated(COUNT_UP + "\n", 39) + "do b", "end", "part b");
        due("an empty PART: it ended", x.count(2), 0);
        x = played(1, repeated(COUNT_UP + "\n", 39) + "do b", COUNT_UP, "end", "part b");
        due("an empty PART: it is behind its do", x.player(0, 1), 1);
        due("40 LINES", x.player(0, 3), 40);
    }

    private static void theFortiethIsTheLastOfItsPart() {
        about("the fortieth LINE is its PART's last one");
        EchoStudio x = played(1, repeated(COUNT_UP + "\n", 38) + "do b", COUNT_UP, "end", "part b", "set 6=1");
        due("it is behind its do", x.player(0, 0), 0);
        due("one", x.player(0, 1), 1);
        due("it was done", x.dial(6), bits(1.0));
        x = played(1, repeated(COUNT_UP + "\n", 38) + "do b", "end", "part b", "set 6=1");
        due("nothing is behind its do: it ended", x.count(2), 0);
    }

    private static void theFortiethIsAWait() {
        about("the fortieth LINE is a wait");
        EchoStudio x = played(1, repeated(COUNT_UP + "\n", 39) + "wait 2");
        due("it waits", x.player(0, 2), 2);
        due("40", x.player(0, 3), 40);
        x.run(2);
        due("it ended", x.count(2), 0);
        x = played(1, repeated(COUNT_UP + "\n", 39) + "wait 0", COUNT_UP);
        due("one that goes on is a LINE too", x.dial(7), bits(39.0));
    }

    private static void theFortiethIsAWhile() {
        about("the fortieth LINE is a while");
        EchoStudio x = played(1, repeated(COUNT_UP + "\n", 39) + "while 0<1", "set 6=1", "stop", "end");
        due("its COND was worked out", x.player(0, 3), 40);
        due("not what is in it", x.dial(6), 0);
        x.run(1);
        due("which comes next", x.dial(6), bits(1.0));
        due("without its COND", x.count(3), 42);
        x = played(1, repeated(COUNT_UP + "\n", 39) + "while 0>1", "set 6=1", "end");
        due("one that is not so, and nothing behind it", x.count(2), 0);
        x = played(1, "while 0<1", "end");
        due("40 times its COND", x.count(3), 40);
        x.run(1);
        due("and 40 more", x.count(3), 80);
    }

    private static void theFortiethIsRefused() {
        about("the fortieth LINE is refused");
        EchoStudio x = played(1, repeated(COUNT_UP + "\n", 38) + "try", "drop 99", "on none", "set 6=hurt", "end");
        due("40", x.count(3), 40);
        due("its on took it", x.count(7), 1);
        due("the on is the next tick's first LINE", x.player(0, 3), 40);
        due("not gone on", x.dial(6), 0);
        x.run(1);
        due("the on, and its LINE", x.count(3), 42);
        due("hurt", x.dial(6), bits(8.0));
        x = played(1, repeated(COUNT_UP + "\n", 37) + "try", "drop 99", "on none", "set 6=hurt", "end");
        due("the on is the fortieth", x.count(3), 40);
        due("not gone on", x.dial(6), 0);
        x.run(1);
        due("its LINE", x.count(3), 41);
        x = played(1, repeated(COUNT_UP + "\n", 39) + "drop 99");
        due("without an on it FELL", x.count(8), 1);
        due("it is gone", x.count(2), 0);
    }

    private static void fortyOfEachPlayer() {
        about("forty LINES are of each PLAYER");
        EchoStudio x = studio(part("a", "while 0<1", "end"), part("b", "while 0<1", COUNT_UP, "end"));
        for (int i = 0; i < 8; i++) {
            x.play(i % 2);
        }
        x.run(1);
        due("8 times 40", x.count(3), 320);
        due("the last one's", x.player(7, 3), 40);
        due("4 times 20", x.dial(7), bits(80.0));
    }

    private static void anEmptyPart() {
        about("an empty PART");
        EchoStudio x = studio(part("a"), part("b", "do a", told(1), "start a", told(2), "do a"), part("c", "do a"));
        due("played: it is there", x.play(0), 1);
        due("its PART", x.player(0, 0), 0);
        due("in one PART", x.player(0, 1), 1);
        due("it doesn't wait", x.player(0, 2), NONE);
        x.run(1);
        due("it ended in the next tick", x.count(2), 0);
        due("without a LINE", x.count(3), 0);
        due("it did not FALL", x.count(8), 0);
        x.play(1);
        x.run(1);
        due("done: it goes on", x.dial(7), bits(12.0));
        due("five LINES", x.count(3), 5);
        due("started: it is there", x.count(2), 1);
        x.run(1);
        due("then it ended", x.count(2), 0);
        x.play(2);
        x.run(1);
        due("a PART that does it alone", x.count(2), 0);
        due("one LINE more", x.count(3), 6);
    }

    private static void aWaitThatIsTheLastOne() {
        about("a wait that is the last one");
        EchoStudio x = studio(part("a", "wait 2"), part("b", "do a", told(1)), part("c", "do b", told(2), "wait 1"), part("d", "do a"));
        x.play(0);
        x.run(1);
        due("its PART", x.player(0, 0), 0);
        due("it waits", x.player(0, 2), 2);
        x.run(1);
        due("NOW is 2: it is there till its next turn", x.count(2), 1);
        x.run(1);
        due("it ended", x.count(2), 0);
        due("one LINE", x.count(3), 1);
        x.play(2);
        x.run(1);
        due("the PART behind whose last LINE it waits", x.player(0, 0), 0);
        due("three in one another", x.player(0, 1), 3);
        due("till NOW 5", x.player(0, 2), 5);
        x.run(1);
        due("it waits on", x.player(0, 1), 3);
        x.run(1);
        due("it goes on behind its do, and the next do", x.dial(7), bits(12.0));
        due("it waits behind the first PART's last one", x.player(0, 0), 2);
        due("in one PART", x.player(0, 1), 1);
        due("till NOW 6", x.player(0, 2), 6);
        x.run(1);
        due("it ended", x.count(2), 0);
        x.play(3);
        x.run(2);
        due("a do that is the last one too", x.player(0, 1), 2);
        x.run(1);
        due("both end", x.count(2), 0);
    }

    private static void aWaitThatIsTheLastOneOfABlock() {
        about("a wait that is the last one of a block");
        EchoStudio x = played(3, "while 0<1", COUNT_UP, "wait 1", "end");
        due("of a while", x.dial(7), bits(3.0));
        due("its COND each time", x.count(3), 9);
        x = played(1, "if 0<1", "wait 1", "else", told(1), "end", told(2));
        due("of an if", x.dial(7), 0);
        x.run(1);
        due("not its else", x.dial(7), bits(2.0));
        x = played(1, "try", "wait 1", "on any", told(1), "end", told(2));
        x.run(1);
        due("of a try: not its on", x.dial(7), bits(2.0));
        x = played(1, "try", "drop 99", "on any", "wait 1", "on none", told(1), "end", told(2));
        x.run(1);
        due("of an on: not the next on", x.dial(7), bits(2.0));
        x = played(1, "if 0<1", "try", "while 0<1", "wait 1", "stop", "end", "end", "end");
        x.run(1);
        due("it goes on in its while", x.count(3), 5);
    }

    private static void aWaitBelowOne() {
        about("wait with a number below 1: it goes on");
        for (String n : new String[] {"0", "-0", "0.9999", "-1", "-999999", "-999999*999999"}) {
            EchoStudio x = played(1, "wait " + n, told(1), "wait 5");
            due("wait " + n, x.dial(7), bits(1.0));
            due("a LINE", x.player(0, 3), 3);
        }
        EchoStudio x = played(1, told(1), "wait 0");
        due("as the last one", x.count(2), 0);
        x = played(1, "do b", told(2), "end", "part b", told(1), "wait -1");
        due("as the last one of a PART", x.dial(7), bits(12.0));
    }

    private static void aWaitBeyondTheGreatestInt() {
        about("wait: at most the greatest int");
        due("NOW 0", played(1, "wait 65536*32768-1").player(0, 2), GREATEST);
        due("NOW 0, less", played(1, "wait 65536*32768-2").player(0, 2), GREATEST - 1);
        due("NOW 0, more", played(1, "wait 65536*32768").player(0, 2), GREATEST);
        due("NOW 0, far more", played(1, "wait 999999*999999").player(0, 2), GREATEST);
        due("NOW 3, so that it is the greatest", played(4, "wait 3", "wait 65536*32768-4").player(0, 2), GREATEST);
        due("NOW 3, one less", played(4, "wait 3", "wait 65536*32768-5").player(0, 2), GREATEST - 1);
        due("NOW 3, one more", played(4, "wait 3", "wait 65536*32768-3").player(0, 2), GREATEST);
        due("NOW 3, the greatest", played(4, "wait 3", "wait 65536*32768-1").player(0, 2), GREATEST);
        EchoStudio x = played(500, "wait 3", "wait 65536*32768-1", told(1));
        due("it waits on", x.dial(7), 0);
        due("it is there", x.count(2), 1);
    }

    private static void tillWhenItWaits() {
        about("till when it waits");
        EchoStudio x = played(0, told(1), "wait 1.9999", told(2), "wait 3", told(3));
        due("not yet", x.player(0, 2), NONE);
        x.run(1);
        due("till NOW 1", x.player(0, 2), 1);
        x.run(1);
        due("till NOW 4", x.player(0, 2), 4);
        due("it went on", x.dial(7), bits(12.0));
        x.run(2);
        due("NOW 2 and 3: nothing", x.dial(7), bits(12.0));
        due("NOW 4 is come, its turn is not", x.player(0, 2), 4);
        x.run(1);
        due("its turn", x.dial(7), bits(123.0));
        x = played(2, "wait 1", repeated(COUNT_UP + "\n", 41) + COUNT_UP);
        due("it doesn't wait any more", x.player(0, 2), NONE);
    }

    private static void aWaitThatIsRefused() {
        about("a wait that is refused");
        EchoStudio x = played(1, "try", "wait 1/0", "on zero", told(1), "wait 7", "end");
        due("it doesn't wait", x.dial(7), bits(1.0));
        due("its on's wait", x.player(0, 2), 7);
    }

    private static void stop() {
        about("stop");
        EchoStudio x = studio(part("a", told(1), "do b", told(2)), part("b", "try", "if 0<1", "stop", "end", "on any", told(3), "end", told(4)));
        x.play(0);
        x.run(2);
        due("it ends, in whatever it is", x.dial(7), bits(1.0));
        due("it is gone", x.count(2), 0);
        due("it did not FALL", x.count(8), 0);
        due("no refusal", x.count(6), 0);
        due("LINES", x.count(3), 5);
    }

    private static void blocksWithoutLines() {
        about("blocks without LINES");
        EchoStudio x = played(1, "if 0<1", "end", "if 0<1", "else", "end", "if 1<0", "else", "end", "while 1<0", "end", "try", "end", "try", "on any",
                "end", told(1), "if 0<1", "try", "if 0<1", "else", told(2), "end", "on any", told(3), "end", "else", told(4), "end");
        due("they are gone through", x.dial(7), bits(1.0));
        due("it ended", x.count(2), 0);
        due("LINES", x.count(3), 10);
    }

    private static void aPlayerBehindOthers() {
        about("a PLAYER that begins has nothing of one that was there before");
        String late = part("late", "set 6=hurt", "set 5=dial(5)+1", "wait 3");
        EchoStudio x = studio(part("a", "do b", told(1)), part("b", "try", "drop 99", "on any", "wait 9", "end"), late);
        x.play(0);
        x.run(1);
        due("it waits in two PARTS", x.player(0, 1), 2);
        due("read", readText(x, late), 0);
        due("play", x.play(0), 1);
        due("its PART", x.player(0, 0), 0);
        due("one", x.player(0, 1), 1);
        due("it doesn't wait", x.player(0, 2), NONE);
        due("no LINES", x.player(0, 3), 0);
        x.run(1);
        due("hurt is 0 at first", x.dial(6), 0);
        due("it plays", x.dial(5), bits(1.0));
        x.run(4);
        due("it ends", x.count(2), 0);
        x = studio(part("a", "try", "drop 99", "on any", "end"), part("late", "set 6=hurt+1", "wait 3"));
        x.play(0);
        x.run(1);
        x.play(1);
        due("no LINES", x.player(0, 3), 0);
        x.run(1);
        due("hurt is 0 at first", x.dial(6), bits(1.0));
        x = studio(part("a", "try", "drop 99", "on any", "stop", "end"), part("late", "set 6=hurt+1", "wait 3"), part("c", "start late", "wait 1"));
        x.play(2);
        x.play(0);
        x.run(2);
        due("hurt is 0 at first", x.dial(6), bits(1.0));
    }
}
