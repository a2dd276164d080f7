/** The document's promises, one by one: ordinary inputs, the edges that it names, and wrong inputs. */
public final class PromisesTest extends Probe {
    public static void main(String[] args) {
        aNewObject();
        feed();
        back();
        read();
        readTheWhole();
        readKeepsAndDrops();
        play();
        run();
        runSlots();
        answers();
        linesOfLoops();
        linesOfHeadsAndDials();
        linesOfDesk();
        numbers();
        waits();
        ways();
        refusals();
        worn();
        act();
        actRefused();
        loop();
        cell();
        head();
        dial();
        slot();
        player();
        count();
        met();
        peak();
        finish();
    }

    private static void aNewObject() {
        about("promise 1");
        due("NONE", EchoStudio.NONE, -1);
        EchoStudio x = new EchoStudio();
        for (int n = 0; n < 12; n++) {
            due("loop", x.loop(n, 0), NONE);
            due("loop", x.loop(n, 1), NONE);
            due("peak", x.peak(n), 0);
            due("cell", x.cell(n, 0), 0);
            due("slot", x.slot(n, 0), NONE);
        }
        for (int h = 0; h < 10; h++) {
            due("head", x.head(h, 0), 0);
            due("head", x.head(h, 1), 0);
            due("dial", x.dial(h), 0);
        }
        for (int w = 0; w <= 12; w++) {
            due("count(" + w + ")", x.count(w), 0);
        }
        due("player", x.player(0, 0), NONE);
        due("met", x.met(0, 0), NONE);
        due("play", x.play(0), NONE);
        due("back", x.back(1), NONE);
        due("back", x.back(0), 0);
        due("read", x.read(), 2);
        due("run", x.run(3), 3);
    }

    private static void feed() {
        about("promise 2");
        EchoStudio x = new EchoStudio();
        // "part", " a\n ", "end\n", two times blanks
        due("feed", x.feed(0x70617274, 0x20610A20, 0x656E640A, 0x20202020, 0x20202020), 20);
        due("read", x.read(), 0);
        due("the tape is empty", x.back(0), 0);
        for (int i = 1; i <= 200; i++) {
            due("feed", x.feed(0, -1, LEAST, GREATEST, 7), 20 * i);
        }
        due("feed to a full tape", x.feed(1, 2, 3, 4, 5), NONE);
        due("nothing came", x.back(0), 4000);
        due("back", x.back(19), 3981);
        due("feed, 19 are free", x.feed(1, 2, 3, 4, 5), NONE);
        due("back", x.back(1), 3980);
        due("feed, 20 are free", x.feed(1, 2, 3, 4, 5), 4000);
    }

    private static void back() {
        about("promise 3");
        EchoStudio x = new EchoStudio();
        feedText(x, "part a\nend\nwhat is behind goes");
        due("back", x.back(19), 11);
        due("back", x.back(12), NONE);
        due("back", x.back(-1), NONE);
        due("back", x.back(LEAST), NONE);
        due("back", x.back(GREATEST), NONE);
        due("back", x.back(0), 11);
        due("read", x.read(), 0);
        due("count", x.count(1), 1);
        feedText(x, "abc");
        due("back", x.back(3), 0);
    }

    private static void read() {
        about("promise 4");
        due("a plain one", fault("part a\nend\n"), 0);
        due("without a last 10", fault("part a\nend"), 0);
        due("blanks, remarks, empty lines", fault("\n ;x\n  part   a ; \t\u00ff\n\n;\nend;\n ; end"), 0);
        due("names of words", fault("part end\nend\npart part\ndo end\nstart part\nend\n"), 0);
        due("eight letters", fault("part abcdefgh\nend\n"), 0);
        due("nothing", fault(""), 2);
        due("empty lines", fault("\n\n"), 34);
        due("the end within a part", fault("part a\n"), 18);
        due("the end without a 10", fault("part a"), 2);
        due("the end within an if", fault("part a\nif 0<1\nend\n"), 50);
        due("not a part", fault("loop 0,1\n"), 2);
        due("part without a name", fault("part\nend\n"), 2);
        due("part with a number", fault("part 1\nend\n"), 2);
        due("part in a part", fault("part a\npart b\nend\nend\n"), 18);
        due("end of nothing", fault("part a\nend\nend\n"), 34);
        due("two on a line", fault("part a end\n"), 2);
        due("EOL too soon", fault("part a\nloop 0,\nend\n"), 18);
        due("no EOL", fault("part a\nstop stop\nend\n"), 18);
        due("a word that is none", fault("part a\nplay 1\nend\n"), 18);
        due("else without if", fault("part a\nelse\nend\n"), 18);
        due("two elses", fault("part a\nif 0<1\nelse\nelse\nend\nend\n"), 50);
        due("else in a while", fault("part a\nwhile 0<1\nelse\nend\nend\n"), 34);
        due("on without try", fault("part a\non any\nend\n"), 18);
        due("on in an if in a try", fault("part a\ntry\nif 0<1\non any\nend\nend\nend\n"), 50);
        due("on of what is none", fault("part a\ntry\non you\nend\nend\n"), 34);
        due("all ons", fault("part a\ntry\non missing\non off\non size\non room\non zero\non full\non deep\non none\non any\nend\nend\n"), 0);
        due("no comparison", fault("part a\nif 1\nend\nend\n"), 18);
        due("two comparisons", fault("part a\nif 1<2<3\nend\nend\n"), 18);
        due("= in a loop", fault("part a\nloop 0=1\nend\n"), 18);
        due(", in a set", fault("part a\nset 0,1\nend\n"), 18);
        due("too few", fault("part a\nplug 1,2,3,4,5,6,7\nend\n"), 18);
        due("too many", fault("part a\nplug 1,2,3,4,5,6,7,8,9\nend\n"), 18);
        due("dial without (", fault("part a\nset 0=dial 1\nend\n"), 18);
        due("least of one", fault("part a\nset 0=least(1)\nend\n"), 18);
        due("abs of two", fault("part a\nset 0=abs(1,2)\nend\n"), 18);
        due("+ ahead", fault("part a\nset 0=+1\nend\n"), 18);
        due("- - -", fault("part a\nset 0=1 - - - 1\nend\n"), 0);
        due("nine letters", fault("part abcdefghi\nend\n"), 1);
        due("a sign that is none", fault("part a\nset 0=1 % 2\nend\n"), 17);
        due("a byte 9", fault("part a\n\tend\n"), 17);
        due("a great letter", fault("part A\nend\n"), 1);
        due("a byte above 127", fault("part a\nend\n\u00e4"), 33);
        due("seven digits", fault("part a\nset 0=1234567\nend\n"), 17);
        due("seven digits that can't stand", fault("part a\n1234567\nend\n"), 17);
        due("five behind the point", fault("part a\nset 0=1.12345\nend\n"), 17);
        due("six and four", fault("part a\nset 0=123456.1234\nend\n"), 0);
        due("a point without digits", fault("part a\nset 0=12.\nend\n"), 17);
        due("a number that can't stand, a point behind", fault("part a\n12.\nend\n"), 18);
        due("two points", fault("part a\nset 0=1.2.3\nend\n"), 17);
        due("a point alone", fault("part a\nset 0=.5\nend\n"), 17);
        due("the first fault counts", fault("part a\nstop 1 %\n%\n"), 18);
        due("a name twice", fault("part a\nend\npart b\nend\npart a\nend\n"), 67);
        due("a name twice, ahead of what is behind", fault("part a\nend\npart a %\n"), 35);
    }

    private static String of(String lines) {
        return "part a\n" + lines + "end\n";
    }

    private static void readTheWhole() {
        about("promise 4");
        due("20 blocks", fault(of(repeated("if 0<1\n", 20) + repeated("end\n", 20))), 0);
        due("21 blocks", fault(of(repeated("try\n", 21) + repeated("end\n", 21))), 16 * 21 + 4);
        due("20 (", fault(of("set 0=" + repeated("(", 20) + "1" + repeated(")", 20) + "\n")), 0);
        due("21 (", fault(of("set 0=" + repeated("(", 21) + "1" + repeated(")", 21) + "\n")), 20);
        due("20 -", fault(of("set 0=" + repeated("-", 20) + "1\n")), 0);
        due("21 -", fault(of("set 0=" + repeated("-", 21) + "1\n")), 20);
        due("- ends with its factor", fault(of("set 0=" + repeated("-1+", 30) + "1\n")), 0);
        due("- of (: both", fault(of("set 0=" + repeated("-(", 10) + "1" + repeated(")", 10) + "\n")), 0);
        due("- of (: one more", fault(of("set 0=" + repeated("-(", 10) + "-1" + repeated(")", 10) + "\n")), 20);
        due("of a word", fault(of("set 0=" + repeated("abs(", 21) + "1" + repeated(")", 21) + "\n")), 20);
        due("blocks and ( together", fault(of(repeated("while 0<1\n", 19) + "set 0=((1))\n" + repeated("end\n", 19))), 16 * 20 + 4);
        due("an if is open in its condition", fault(of(repeated("if 0<1\n", 19) + "if (1)<1\n" + repeated("end\n", 20))), 16 * 20 + 4);
        due("21st ( that can't stand", fault(of("set 0=" + repeated("(", 20) + "1(")), 18);
        due("no such part", fault(of("do b\n")), 5);
        due("no such part to start", fault(of("\n\nstart b\n")), 5);
        due("a part behind", fault(of("do b\n") + "part b\nend\n"), 0);
        due("5 is behind 2", fault(of("do b\n") + "part c\n"), 16 * 4 + 2);
        due("200 lines", fault(of(repeated("stop\n", 200))), 0);
        due("201 lines", fault(of(repeated("stop\n", 201))), 6);
        due("5 ahead of 6", fault(of(repeated("stop\n", 200) + "do b\n")), 5);
        due("else, on, try, if count", fault(of(repeated("try\non any\nend\n", 50) + repeated("if 1<1\nelse\nend\n", 50))), 0);
        due("and one more", fault(of(repeated("try\non any\nend\n", 50) + repeated("if 1<1\nelse\nend\n", 50) + "stop\n")), 6);
        // 3 of part, 2 of end, 4 and an EOL of set, and two for each + 1
        due("1,200 tokens", fault(of("set 0=1" + repeated("+1", 595) + "\n")), 0);
        due("1,201 tokens", fault(of("set 0=-1" + repeated("+1", 595) + "\n")), 6);
        StringBuilder parts = new StringBuilder();
        for (int i = 0; i < 30; i++) {
            parts.append("part ").append((char) ('a' + i % 26)).append(i < 26 ? "" : "x").append("\nend\n");
        }
        due("30 parts", fault(parts.toString()), 0);
        due("31 parts", fault(parts + "part z" + "z\nend\n"), 6);
        due("a fault behind 4,000 bytes of tokens", fault(of("set 0=1" + repeated("+1", 1980) + "+\n")), 18);
    }

    private static void readKeepsAndDrops() {
        about("promise 4");
        EchoStudio x = played(1, "loop 3,2", "set 1=5", "head 2,3,1", "plug 4,0,1,2,3,4,7,0", "wait 9");
        due("players", x.count(2), 1);
        due("a fault", readText(x, "part b\nend\npart b\n"), 35);
        due("the tape is empty", x.back(0), 0);
        due("players stay", x.count(2), 1);
        due("parts stay", x.count(1), 1);
        due("a score", readText(x, "part b\nend\npart c\nend\n"), 0);
        due("the tape is empty", x.back(0), 0);
        due("players are gone", x.count(2), 0);
        due("parts", x.count(1), 2);
        due("none fell", x.count(8), 0);
        due("loop stays", x.loop(3, 1), 2);
        due("dial stays", x.dial(1), bits(5.0));
        due("head stays", x.head(2, 0), 3);
        due("slot stays", x.slot(4, 5), 7);
        due("now stays", x.count(0), 1);
    }

    private static void play() {
        about("promise 5");
        EchoStudio x = new EchoStudio();
        due("no score", x.play(0), NONE);
        readText(x, "part a\nwait 1\nend\npart b\nend\n");
        due("below", x.play(-1), NONE);
        due("above", x.play(2), NONE);
        due("far above", x.play(GREATEST), NONE);
        for (int i = 1; i <= 8; i++) {
            due("play", x.play(i % 2), i);
        }
        due("a ninth", x.play(0), NONE);
        due("players", x.count(2), 8);
        due("its part", x.player(0, 0), 1);
        due("its part", x.player(1, 0), 0);
        x.run(1);
        due("those of the empty part ended", x.count(2), 4);
        due("play", x.play(1), 5);
    }

    private static void run() {
        about("promise 6");
        EchoStudio x = new EchoStudio();
        due("run", x.run(-1), NONE);
        due("run", x.run(501), NONE);
        due("run", x.run(LEAST), NONE);
        due("now", x.count(0), 0);
        due("run", x.run(0), 0);
        due("run", x.run(500), 500);
        due("run", x.run(1), 1);
        due("now", x.count(0), 501);

        x = played(1, "while 0<1", "set 0=dial(0)+1", "end");
        due("40 lines in a tick", x.count(3), 40);
        due("20 rounds", x.dial(0), bits(20.0));
        x.run(1);
        due("40 more", x.player(0, 3), 80);

        x = played(1, repeated("set 0=dial(0)+1\n", 40) + ";");
        due("ends with its fortieth line", x.count(2), 0);
        x = played(1, repeated("set 0=dial(0)+1\n", 41) + ";");
        due("is at its forty-first", x.count(2), 1);
        due("40 lines", x.dial(0), bits(40.0));
        x.run(1);
        due("the forty-first", x.dial(0), bits(41.0));
        due("ended", x.count(2), 0);

        x = new EchoStudio();
        readText(x, "part a\nset 0=dial(0)*10+1\nend\npart b\nset 0=dial(0)*10+2\nstart a\nend\n");
        x.play(1);
        x.play(0);
        x.play(1);
        x.run(1);
        due("in the order of their beginning", x.dial(0), bits(212.0));
        due("those that begin wait for the next tick", x.count(2), 2);
        x.run(1);
        due("then they play", x.dial(0), bits(21211.0));
    }

    private static void runSlots() {
        about("promise 6");
        EchoStudio x = played(1, "loop 0,9", "drum 1,9", "head 0,0,0", "head 1,1,0", "plug 1,0,0,1,0,0,1,0", "plug 0,0,0,1,0,0,3,0");
        due("both in the tick of their plug", x.head(0, 1), 2);
        x.run(1);
        due("NOW 1", x.head(0, 1), 3);
        x.run(2);
        due("NOW 3", x.head(0, 1), 6);
        due("acts", x.count(4), 6);

        // SLOT 1 refuses in the third tick and halts; SLOT 2 has no turn then, the dial glides on.
        x = played(0, "loop 0,2", "drum 1,9", "drum 2,9", "head 0,0,0", "head 1,1,0", "head 2,2,0", "plug 1,0,0,1,0,0,1,4",
                "plug 2,5,2,1,1,0,1,0", "glide 3,10,5");
        due("halted", x.run(10), 3);
        due("now", x.count(0), 3);
        due("SLOT 2 had two", x.head(2, 1), 2);
        due("the dial glided in the last one too", x.dial(3), bits(6.0));
        due("halted at once", x.run(10), 1);
        due("run of none", x.run(0), 0);

        x = played(1, "glide 0,1,4", "glide 1,5,1", "glide 2,7,0", "glide 3,8,-1", "set 4=1", "glide 4,0.1,3");
        due("a step", x.dial(0), bits(0.25));
        due("the last tick", x.dial(1), bits(5.0));
        due("as set", x.dial(2), bits(7.0));
        due("as set", x.dial(3), bits(8.0));
        double step = (0.1 - 1) / 3;
        due("a step", x.dial(4), bits(1 + step));
        due("two glide", x.count(12), 2);
        x.run(1);
        due("two steps", x.dial(4), bits(1 + step + step));
        x.run(1);
        due("what was told", x.dial(4), bits(0.1));
        due("one glides", x.count(12), 1);
        x.run(3);
        due("it is there", x.dial(0), bits(1.0));
        due("none glides", x.count(12), 0);
        x = played(2, "glide 0,8,8", "wait 1", "set 0=1");
        due("set ends a glide", x.dial(0), bits(1.0));
        x = played(2, "glide 0,8,8", "wait 1", "glide 0,0,2");
        due("a glide forgets the one before", x.dial(0), bits(0.5));
    }

    private static void answers() {
        about("promise 6");
        String[] desk = {"loop 0,4", "drum 1,4", "head 0,0,9", "head 1,1,-6", "head 2,1,7", "set 3=3", "glide 3,9,9"};
        EchoStudio x = answered(desk, "plug 2,0,0,1,2,3,1,0");
        due("PASS", x.head(0, 1), 10);
        due("PASS", x.head(1, 1), -5);
        x = answered(desk, "plug 2,0,0,1,2,3,1,1");
        due("HOME", x.head(0, 1), 0);
        due("HOME", x.head(1, 1), 0);
        due("HOME: r is not told", x.head(2, 1), 7);
        x = answered(desk, "plug 2,0,0,1,2,3,1,2");
        due("ROUND", x.head(0, 1), 2);
        due("ROUND", x.head(1, 1), 3);
        due("ROUND: r is not told", x.head(2, 1), 7);
        x = answered(desk, "loop 5,0", "head 0,5,9", "head 1,6,-6", "plug 2,0,0,1,2,3,1,2");
        due("ROUND, no cells", x.head(0, 1), 10);
        due("ROUND, no loop", x.head(1, 1), -5);
        x = answered(desk, "plug 2,0,0,1,2,3,1,3");
        due("PULL", x.slot(2, 0), NONE);
        x = answered(desk, "plug 2,0,0,1,2,3,1,5");
        due("HALF", x.dial(3), bits(1.5));
        due("HALF ends the glide", x.count(12), 0);
        x = answered(desk, "plug 2,0,0,1,2,3,1,100");
        due("a player begins", x.count(2), 1);
        due("PART 0", x.player(0, 0), 0);
        x = answered(desk, "plug 2,0,0,1,2,3,1,101");
        due("no such part", x.count(2), 0);
        due("refused", x.slot(2, 7), 1);
        int[] told = {2, 2, 2, 1, 3, 3, 3, 3, 3, 1, 2, 2, 3, 1, 2, 2};
        for (int kind = 0; kind < 16; kind++) {
            x = played(1, "head 0,0,5", "head 1,0,5", "head 2,0,5", "plug 0," + kind + ",0,1,2,0,1,1");
            for (int h = 0; h < 3; h++) {
                due("HOME of KIND " + kind, x.head(h, 1), h < told[kind] ? 0 : 5);
            }
        }
    }

    private static EchoStudio answered(String[] desk, String... more) {
        return played(1, String.join("\n", desk), String.join("\n", more));
    }

    private static void linesOfLoops() {
        about("promise 6");
        EchoStudio x = played(1, "loop 0,3.9", "drum 11,300", "loop 2,0", "head 0,0,0", "put 0=1", "loop 0,3", "drop 2", "drop 5");
        due("loop", x.loop(0, 0), 0);
        due("loop", x.loop(0, 1), 3);
        due("new cells are 0", x.cell(0, 0), 0);
        due("drum", x.loop(11, 0), 1);
        due("drum", x.loop(11, 1), 300);
        due("drop", x.loop(2, 0), NONE);
        due("no refusal", x.count(9), 0);
        due("made", x.count(10), 4);
        due("cells made", x.count(11), 306);
        due("SIZE", refused("loop 0,-1"), 3);
        due("SIZE", refused("drum 0,-999999*999999"), 3);
        due("ROOM", refused("loop 0,301"), 4);
        due("NONE", refused("loop 12,1"), 8);
        due("NONE ahead of SIZE", refused("loop -1,-1"), 8);
        due("NONE", refused("drop 12"), 8);
        due("E's ahead of NONE", refused("loop 12,1/0"), 5);
        due("THE WHOLE of it", refused("loop -0.9,1"), 0);
        x = played(4, "while 0<1", "loop 1,0", "end");
        due("60 are made", x.count(10), 60);
        due("the 61st", x.count(9), 4);
        x = played(2, "while 0<1", "drum 1,299", "end");
        due("6,000 cells", x.count(11), 299 * 20);
        due("ROOM", x.count(9), 4);
        due("the old one stays", x.loop(1, 1), 299);
        x = played(2, "set 0=0", "while dial(0)<20", "drum 1,300", "set 0=dial(0)+1", "end");
        due("6,000 cells", x.count(11), 6000);
        due("no refusal", x.count(9), 0);
        playMore(x, 1, "loop 2,0", "loop 2,1");
        due("one of no cells", x.loop(2, 1), 0);
        due("the 6,001st", x.count(9), 4);

        String[] cells = {"loop 0,3", "head 0,0,0", "put 0=0.1", "put 0=-2", "put 0=999999.9999"};
        String all = String.join("\n", cells);
        x = played(1, all, "copy 1,0", "turn 1", "copy 2,1", "turn 2", "turn 0", "turn 0", "copy 0,0");
        due("copy", x.loop(1, 0), 1);
        due("turned", x.cell(1, 0), bits((double) 0.1f));
        due("turned", x.cell(1, 1), bits(-2.0));
        due("turned back", x.loop(2, 0), 0);
        due("turned back", x.cell(2, 0), bits(0.1f));
        due("turned back", x.cell(2, 2), bits((float) 999999.9999));
        due("made", x.count(10), 8);
        due("cells made", x.count(11), 24);
        x = played(1, all, "copy 1,0", "head 1,1,0", "put 1=7");
        due("a copy is another loop", x.cell(0, 0), bits(0.1f));
        x = played(1, "drum 0,1", "head 0,0,0", "put 0=0.1", "turn 0");
        due("to the nearest", x.cell(0, 0), bits(0.1f));
        due("MISSING", refused("copy 0,1"), 1);
        due("MISSING", refused("turn 1"), 1);
        due("NONE", refused("copy 0,12"), 8);
        due("NONE", refused("copy 12,0"), 8);
        due("NONE", refused("turn 12"), 8);
        due("ROOM of copy", played(4, "loop 0,0", "while 0<1", "copy 1,0", "end").count(9), 4);
        due("ROOM of turn", played(4, "loop 0,0", "while 0<1", "turn 0", "end").count(9), 4);
        due("cells of turn", played(4, "loop 0,300", "while 0<1", "turn 0", "end").count(11), 6000);
    }

    private static void linesOfHeadsAndDials() {
        about("promise 6");
        EchoStudio x = played(1, "head 9,11,-7.5", "head 8,0,999999*999999", "set 9=0.1", "set 0=-0");
        due("head", x.head(9, 0), 11);
        due("head", x.head(9, 1), -7);
        due("head", x.head(8, 1), GREATEST);
        due("set", x.dial(9), bits(0.1));
        due("set", x.dial(0), bits(-0.0));
        due("NONE", refused("head 10,0,0"), 8);
        due("NONE", refused("head 0,12,0"), 8);
        due("NONE", refused("set 10=1"), 8);
        due("NONE", refused("glide 10,1,1"), 8);
        due("NONE", refused("put 10=1"), 8);
        due("MISSING", refused("put 0=1"), 1);
        x = played(1, "loop 0,1", "put 0=5", "put 0=6");
        due("OFF", x.count(9), 2);
        due("it stays", x.head(0, 1), 1);
        due("put", x.cell(0, 0), bits(5f));
        x = played(1, "loop 0,1", "head 0,0,-1", "put 0=6");
        due("OFF", x.count(9), 2);
        due("it stays", x.head(0, 1), -1);

        x = played(1, "head 3,4,5", "set 2=6", "scene 3", "head 3,1,1", "set 2=1", "glide 5,1,9", "recall 3");
        due("recall", x.head(3, 0), 4);
        due("recall", x.head(3, 1), 5);
        due("recall", x.dial(2), bits(6.0));
        due("none glides", x.count(12), 0);
        due("NONE", refused("scene 4"), 8);
        due("NONE", refused("recall -1"), 8);
        due("MISSING", refused("scene 0", "recall 1"), 1);
    }

    private static void linesOfDesk() {
        about("promise 6");
        EchoStudio x = played(1, "plug 11,15.9,9,8,7,6,60,129");
        int[] want = {15, 9, 8, 7, 6, 60, 129, 0};
        for (int w = 0; w < 8; w++) {
            due("slot(11, " + w + ")", x.slot(11, w), w == 7 ? 1 : want[w]);
        }
        due("pull", played(1, "plug 11,15,9,8,7,6,60,129", "pull 11", "pull 11").slot(11, 0), NONE);
        String[] wrongOnes = {"12,0,0,0,0,0,1,0", "-1,0,0,0,0,0,1,0", "0,16,0,0,0,0,1,0", "0,-1,0,0,0,0,1,0", "0,0,10,0,0,0,1,0",
            "0,0,0,10,0,0,1,0", "0,0,0,0,10,0,1,0", "0,0,0,0,0,10,1,0", "0,0,0,0,0,0,0,0", "0,0,0,0,0,0,61,0", "0,0,0,0,0,0,1,6",
            "0,0,0,0,0,0,1,99", "0,0,0,0,0,0,1,130", "0,0,0,0,0,0,1,-1"};
        for (String one : wrongOnes) {
            due("plug " + one, refused("plug " + one), 8);
        }
        due("pull", refused("pull 12"), 8);
        x = played(1, "plug 0,3,0,0,0,0,1,0", "wait 1", "plug 0,3,0,0,0,0,1,0");
        due("refused once", x.slot(0, 7), 1);
        x.run(1);
        due("a new box is counted anew", x.slot(0, 7), 1);

        String[] ready = {"loop 0,9", "head 0,0,0", "while place(0)<9", "put 0=2", "end", "set 0=3"};
        String all = String.join("\n", ready);
        x = played(1, all, "head 0,0,0", "burst 3,0,0,0,0,4.9");
        due("burst", x.head(0, 1), 4);
        due("burst", x.cell(0, 3), bits(6f));
        due("burst", x.cell(0, 4), bits(2f));
        due("acts", x.count(4), 4);
        due("none", played(1, "burst 3,0,0,0,0,0", "burst 3,0,0,0,0,-5").count(4), 0);
        x = played(1, all, "head 0,0,7", "burst 3,0,0,0,0,300");
        due("its refusal is the line's", x.count(6), 1);
        due("no act's", x.count(5), 0);
        due("acts, the refused one too", x.count(4), 3);
        due("OFF", x.count(9), 2);
        due("where", x.met(0, 2), 100);
        due("what was moved stays", x.head(0, 1), 10);
        due("what was set stays", x.cell(0, 8), bits(6f));
        due("301", refused("burst 3,0,0,0,0,301"), 8);
        due("KIND", refused("burst 16,0,0,0,0,1"), 8);
        due("HEAD", refused("burst 3,0,0,-1,0,1"), 8);
        due("DIAL", refused("burst 3,0,0,0,10,0"), 8);
    }

    private static double worked(String sum, String... ahead) {
        EchoStudio x = played(1, String.join("\n", ahead), "set 9=" + sum);
        return Double.longBitsToDouble(x.dial(9));
    }

    private static void dueSum(String sum, double want, String... ahead) {
        due(sum, bits(worked(sum, ahead)), bits(want));
    }

    private static void numbers() {
        about("promise 6");
        dueSum("0.1", 0.1);
        dueSum("123456.7891", 123456.7891);
        dueSum("999999.9999", 999999.9999);
        dueSum("000000.0001", 0.0001);
        dueSum("1-2-3", -4);
        dueSum("1-2*3+4", -1);
        dueSum("8/4/2", 1);
        dueSum("2*(3+4)", 14);
        dueSum("--2", 2);
        dueSum("-2*-3", 6);
        dueSum("0.1+0.2", 0.1 + 0.2);
        dueSum("1/3", 1.0 / 3);
        dueSum("-0", -0.0);
        dueSum("0-0", 0);
        dueSum("abs(-3)", 3);
        dueSum("abs(-0)", 0.0);
        dueSum("whole(-3.9)", -3);
        dueSum("whole(-0.5)", 0.0);
        dueSum("whole(999999*999999)", GREATEST);
        dueSum("whole(-999999*999999)", LEAST);
        dueSum("least(1,-2)", -2);
        dueSum("least(0,-0)", -0.0);
        dueSum("most(0,-0)", 0.0);
        dueSum("most(1,-2)", 1);
        dueSum("now", 0);
        dueSum("hurt", 0);
        dueSum("dial(1)+dial(2)", 5, "set 1=2", "set 2=3");
        dueSum("place(3)", -4, "head 3,0,-4");
        dueSum("length(4)", 7, "drum 4,7");
        String row = "loop 1,3\nhead 0,1,0\nput 0=0.1\nput 0=-5\nput 0=2\nhead 0,1,1";
        dueSum("cell(0)", -5, row);
        dueSum("sum(1)", (double) 0.1f - 5 + 2, row);
        dueSum("loud(1)", 5, row);
        dueSum("sum(1)+loud(1)", 0, "loop 1,0");
        dueSum("dial(3)", 9, "set 0=3", "set 3=9");
        // 0 / 0 is made by HALVE: a NaN, that no condition is so with.
        String nan = "loop 1,1\ndrum 2,1\nhead 0,1,0\nhead 1,2,0\nburst 14,0,1,0,0,1\nhead 0,1,0";
        dueSum("cell(0)", NAN, nan);
        dueSum("least(1,cell(0))", NAN, nan);
        dueSum("most(cell(0),1)", NAN, nan);
        dueSum("whole(cell(0))", 0, nan);
        dueSum("loud(1)", NAN, nan);
        dueSum("-cell(0)", NAN, nan);
        dueSum("dial(1)", 0, nan, "if cell(0)=cell(0)", "set 1=1", "end", "if cell(0)<1", "set 1=1", "end", "if cell(0)>1", "set 1=1", "end");
        due("the one NaN", played(1, nan).cell(1, 0), 2143289344L);
        due("the one NaN", played(1, nan, "turn 1").cell(1, 0), 9221120237041090560L);
        due("ZERO", refused("set 0=1/0"), 5);
        due("ZERO", refused("set 0=0/-0"), 5);
        due("ZERO", refused("set 0=1/(1-1)"), 5);
        due("NONE", refused("set 0=dial(10)"), 8);
        due("NONE", refused("set 0=dial(-1)"), 8);
        due("NONE", refused("set 0=cell(10)"), 8);
        due("NONE", refused("set 0=place(10)"), 8);
        due("NONE", refused("set 0=length(12)"), 8);
        due("NONE", refused("set 0=sum(12)"), 8);
        due("NONE", refused("set 0=loud(12)"), 8);
        due("MISSING", refused("set 0=cell(0)"), 1);
        due("MISSING", refused("set 0=length(0)"), 1);
        due("MISSING", refused("set 0=sum(0)"), 1);
        due("MISSING", refused("set 0=loud(0)"), 1);
        due("OFF", refused("loop 0,0", "set 0=cell(0)"), 2);
        due("from the left to the right", refused("set dial(10)=1/0"), 8);
        due("from the left to the right", refused("set 1/0=dial(10)"), 5);
        due("no refusal", refused("set 0=1/3"), 0);
    }

    private static void waits() {
        about("promise 6");
        EchoStudio x = played(1, "set 0=1", "wait 2.9", "set 0=2");
        due("it waits", x.dial(0), bits(1.0));
        due("till", x.player(0, 2), 2);
        x.run(1);
        due("it waits", x.dial(0), bits(1.0));
        x.run(1);
        due("it went on", x.dial(0), bits(2.0));
        due("it ended", x.count(2), 0);
        due("lines", x.count(3), 3);
        x = played(1, "wait 0", "wait -3", "wait 0.9", "set 0=2");
        due("it goes on", x.dial(0), bits(2.0));
        x = played(3, "wait 2", "wait 999999*999999");
        due("at most the greatest int", x.player(0, 2), GREATEST);
        due("behind the last line it waits", x.player(0, 0), 0);
        x = played(1, "do two", "set 0=7", "end", "part two", "wait 1");
        due("the part that it waits behind", x.player(0, 0), 1);
        due("two parts", x.player(0, 1), 2);
        due("till", x.player(0, 2), 1);
        x.run(1);
        due("it goes on behind its do", x.dial(0), bits(7.0));
        due("it ended", x.count(2), 0);
    }

    private static void ways() {
        about("promise 6");
        dueSum("dial(0)", 1, "if 1<2", "set 0=1", "else", "set 0=2", "end");
        dueSum("dial(0)", 2, "if 1>2", "set 0=1", "else", "set 0=2", "end");
        dueSum("dial(0)", 0, "if 1=2", "set 0=1", "end");
        dueSum("dial(0)", 1, "if 0=-0", "set 0=1", "end");
        dueSum("dial(0)", 5, "while dial(0)<5", "set 0=dial(0)+1", "end");
        dueSum("dial(0)", 0, "while 2<1", "set 0=1", "end");
        due("while: one each time", played(1, "while dial(0)<5", "set 0=dial(0)+1", "end").count(3), 11);
        due("if is one, else none", played(1, "if 1<2", "else", "end", "if 2<1", "else", "end").count(3), 2);
        due("try is one", played(1, "try", "on any", "set 0=1", "end").count(3), 1);
        due("stop", played(1, "do two", "set 0=1", "end", "part two", "stop", "set 0=2").dial(0), 0);
        EchoStudio x = played(1, "do two", "set 0=dial(0)*10+1", "end", "part two", "set 0=dial(0)*10+2", "do three",
                "set 0=dial(0)*10+4", "end", "part three", "set 0=dial(0)*10+3");
        due("do", x.dial(0), bits(2341.0));
        due("lines", x.count(3), 6);
        x = played(1, "do two", "set 0=1", "end", "part two");
        due("do of an empty part", x.dial(0), bits(1.0));
        due("lines", x.count(3), 2);
        x = played(1, "set 0=dial(0)+1", "do main");
        due("DEEP: twelve in one another", x.dial(0), bits(12.0));
        due("DEEP", x.count(9), 7);
        due("it fell", x.count(8), 1);
        x = played(1, "while 0<1", "start main", "end");
        due("FULL: eight", x.count(2), 7);
        due("FULL", x.count(9), 6);
    }

    private static void refusals() {
        about("promise 6");
        String[] words = {"missing", "off", "size", "room", "zero", "full", "deep", "none"};
        String[] lines = {"turn 9", "put 0=1", "loop 0,-1", "loop 0,301", "set 0=1/0", "start main", "do main", "drop 12"};
        for (int i = 0; i < 8; i++) {
            String ahead = i == 6 ? "do deeper" : lines[i];
            EchoStudio x = new EchoStudio();
            readText(x, "part main\nloop 0,0\ntry\n" + ahead + "\non " + words[(i + 1) % 8] + "\nset 1=1\non " + words[i]
                    + "\nset 1=2\non any\nset 1=3\nend\nset 2=hurt\nend\npart deeper\ndo deeper\nend\n");
            x.play(0);
            for (int k = 0; k < 7 && i == 5; k++) {
                x.play(1);
            }
            x.run(1);
            due("on " + words[i], x.dial(1), bits(2.0));
            due("hurt", x.dial(2), bits(i + 1.0));
            due("taken", x.count(7), 1);
            due("kind", x.count(9), i == 5 ? 7 : i + 1);
        }
        EchoStudio x = played(1, "try", "set 0=1/0", "set 0=9", "on off", "set 0=1", "on any", "set 0=2", "on zero", "set 0=3", "end",
                "set 1=hurt");
        due("the first on for it", x.dial(0), bits(2.0));
        due("it goes on behind the end", x.dial(1), bits(5.0));
        due("lines: try, the refused one, on, two sets", x.count(3), 5);
        due("no fall", x.count(8), 0);
        x = played(1, "try", "try", "set 0=1/0", "on off", "set 0=1", "end", "on zero", "set 0=2", "end");
        due("the try around that has one", x.dial(0), bits(2.0));
        x = played(1, "try", "try", "set 0=1/0", "on zero", "set 0=length(9)", "end", "on missing", "set 0=2", "end");
        due("within an on it is the try around", x.dial(0), bits(2.0));
        x = played(1, "try", "set 0=1/0", "on zero", "set 0=1/0", "end", "set 1=1");
        due("a try is not around its ons", x.count(8), 1);
        due("it fell", x.dial(1), 0);
        x = played(1, "try", "do two", "on zero", "set 0=7", "end", "end", "part two", "try", "set 1=1", "set 0=1/0", "on off", "end");
        due("the try around the do", x.dial(0), bits(7.0));
        due("the refused line's part", x.met(0, 2), 101);
        x = played(1, "try", "on any", "set 0=3", "end", "set 0=1/0");
        due("behind a try nothing is caught", x.count(8), 1);
        x = played(1, "try", "while 1/0<1", "end", "on any", "set 0=1", "end");
        due("a while's refusal", x.dial(0), bits(1.0));
        x = played(1, repeated("set 1=1\n", 38) + "try", "set 0=1/0", "on any", "set 0=2", "end");
        due("the on is the forty-first line", x.count(3), 40);
        due("it is taken", x.count(7), 1);
        due("not gone into", x.dial(0), 0);
        x.run(1);
        due("it goes on there", x.dial(0), bits(2.0));
        due("lines", x.count(3), 42);
        x = played(1, "loop 0,2", "put 0=1", "head 5,0,0", "head 9,7,0", "put 5=cell(5)+cell(9)");
        due("what was worked out moves nothing", x.head(5, 1), 0);
    }

    private static void worn() {
        about("promise 6");
        // Ten boxes are refused in every tick: worn in the tick of NOW 249, with SLOT 9 the last.
        EchoStudio x = new EchoStudio();
        StringBuilder plugs = new StringBuilder("part main\n");
        for (int s = 0; s < 10; s++) {
            plugs.append("plug ").append(s).append(",3,0,0,0,0,1,").append(s == 9 ? "101" : "0").append("\n");
        }
        readText(x, plugs + "wait 300\nend\npart two\nset 5=5\nend\n");
        x.play(0);
        due("run", x.run(249), 249);
        due("refusals", x.count(5), 2490);
        x.run(1);
        due("refusals", x.count(5), 2500);
        due("acts", x.count(4), 2500);
        due("that one's answer is given", x.count(2), 2);
        int lines = x.count(3);
        due("run", x.run(100), 100);
        due("no more acts", x.count(4), 2500);
        due("no more refusals", x.count(5), 2500);
        due("no more lines", x.count(3), lines);
        due("act", x.act(3, 0, 0, 0, 0), NONE);
        due("play", x.play(0), NONE);
        due("a player behind whose last line nothing is ends", x.count(2), 1);
        due("the other is at its line", x.player(0, 0), 1);
        due("now", x.count(0), 350);

        x = new EchoStudio();
        readText(x, "part main\nwhile 0<1\ntry\nset 0=1/0\non any\nset 1=dial(1)+1\nend\nend\nend\n");
        for (int i = 0; i < 5; i++) {
            x.play(0);
        }
        x.run(500);
        due("refusals of lines", x.count(6), 2500);
        due("all taken", x.count(7), 2500);
        due("the last on is no line", x.player(0, 3) + x.player(1, 3) + x.player(2, 3) + x.player(3, 3) + x.player(4, 3), x.count(3));
        due("none fell", x.count(2), 5);
        due("glides go on", glidesWhenWorn(), bits(3.0));
    }

    private static long glidesWhenWorn() {
        EchoStudio x = new EchoStudio();
        readText(x, "part main\nglide 7,3,400\nwhile 0<1\ntry\ndrop 99\non any\nend\nend\nend\n");
        x.play(0);
        x.run(400);
        return x.dial(7);
    }

    /** Two LOOPS and two DRUMS of five: 0 and 1 of SINGLES (1.5 2.5 ..; 4 3 ..), 2 and 3 of DOUBLES (0 1/3 ..; 1 1.1 ..). */
    private static EchoStudio loaded(String... more) {
        return played(3, "loop 0,5", "loop 1,5", "drum 2,5", "drum 3,5", "head 5,0,0", "while place(5)<5", "put 5=place(5)+1.5", "end",
                "head 5,1,0", "while place(5)<5", "put 5=4-place(5)", "end", "head 5,2,0", "while place(5)<5", "put 5=place(5)/3", "end",
                "head 5,3,0", "while place(5)<5", "put 5=place(5)*0.1+1", "end", "set 0=0.5", "set 1=-2", String.join("\n", more));
    }

    private static void dueHeads(EchoStudio x, int p, int q, int r) {
        due("p", x.head(0, 1), p);
        due("q", x.head(1, 1), q);
        due("r", x.head(2, 1), r);
    }

    private static void act() {
        about("promise 7");
        double[] d3 = {1, 1 * 0.1 + 1, 2 * 0.1 + 1, 3 * 0.1 + 1, 4 * 0.1 + 1};
        EchoStudio x = loaded("head 0,0,1", "head 1,2,1");
        due("TAPE", x.act(0, 0, 1, 2, 0), 0);
        due("TAPE", x.cell(0, 1), bits((float) (1.0 / 3)));
        dueHeads(x, 2, 2, 0);
        x = loaded("head 0,2,4", "head 1,0,1");
        due("LIFT", x.act(1, 0, 1, 2, 0), 0);
        due("LIFT", x.cell(2, 4), bits(2.5));
        dueHeads(x, 3, 2, 0);
        x = loaded("head 0,3,1", "head 1,0,2");
        due("MIX", x.act(2, 0, 1, 2, 1), 0);
        due("MIX", x.cell(3, 1), bits(d3[1] + 3.5 * -2));
        dueHeads(x, 1, 3, 0);
        x = loaded("set 3=0.1", "head 0,0,2");
        due("FADE", x.act(3, 0, 1, 2, 3), 0);
        due("FADE, in doubles", x.cell(0, 2), bits((float) (3.5 * 0.1)));
        dueHeads(x, 3, 0, 0);
        x = loaded("head 0,0,0", "head 1,1,3", "head 2,2,1");
        due("BOUNCE", x.act(4, 0, 1, 2, 0), 0);
        due("BOUNCE", x.cell(0, 0), bits((float) (1.0 / 3)));
        due("BOUNCE", x.cell(1, 3), bits((float) (1.0 / 3)));
        dueHeads(x, 1, 2, 2);
        x = loaded("head 0,2,0", "head 1,3,3", "head 2,2,1");
        due("LADDER", x.act(5, 0, 1, 2, 1), 0);
        due("LADDER", x.cell(2, 0), bits(1.0 / 3 * -2));
        due("LADDER", x.cell(3, 3), bits(1.0 / 3 * -2));
        dueHeads(x, 1, 4, 2);
        x = loaded("head 0,2,0", "head 1,3,3", "head 2,2,1");
        due("ECHO", x.act(6, 0, 1, 2, 1), 0);
        due("ECHO", x.cell(2, 0), bits(d3[3] + 1.0 / 3 * -2));
        dueHeads(x, 1, 4, 0);
        x = loaded("head 0,0,0", "head 1,1,-9", "head 2,2,4");
        due("GRAIN", x.act(7, 0, 1, 2, 1), 0);
        due("GRAIN, cell 1", x.cell(0, 0), bits(3f));
        dueHeads(x, 1, -9, 5);
        x = loaded("head 0,0,0", "head 1,2,-9", "head 2,0,1");
        due("SCATTER", x.act(8, 0, 1, 2, 1), 0);
        due("SCATTER, cell 2", x.cell(2, 2), bits(-3.0));
        dueHeads(x, 1, -9, 2);
        x = loaded("head 0,0,2");
        due("STAMMER", x.act(9, 0, 1, 2, 1), 0);
        due("STAMMER", x.cell(0, 2), bits(0f));
        dueHeads(x, 2, 0, 0);
        x = loaded("head 0,2,0", "head 1,3,1");
        due("SMOOTH", x.act(10, 0, 1, 2, 1), 0);
        due("SMOOTH", x.cell(2, 0), bits((d3[0] + d3[1] * 2 + d3[2]) / 4));
        dueHeads(x, 1, 2, 0);
        x = loaded("head 0,0,1", "head 1,2,1");
        due("SWELL", x.act(11, 0, 1, 2, 1), 0);
        due("SWELL", x.dial(1), bits(-2 + 2.5 * (1.0 / 3)));
        dueHeads(x, 2, 2, 0);
        x = loaded("head 0,3,0", "head 1,0,1", "head 2,2,1");
        due("CHASE", x.act(12, 0, 1, 2, 1), 0);
        float chased = (float) (2.5 - 1.0 / 3);
        due("CHASE", x.cell(0, 1), bits(chased));
        due("CHASE", x.cell(3, 0), bits(1 - (double) chased));
        dueHeads(x, 1, 2, 2);
        x = loaded("head 0,3,1");
        due("RING", x.act(13, 0, 1, 2, 1), 0);
        due("RING", x.cell(3, 2), bits(d3[2] * d3[1]));
        due("RING", x.cell(3, 1), bits(d3[1]));
        dueHeads(x, 1, 0, 0);
        x = loaded("head 0,0,1", "head 1,2,1");
        due("HALVE", x.act(14, 0, 1, 2, 1), 0);
        due("HALVE", x.cell(0, 1), bits((float) (2.5 / (1.0 / 3))));
        dueHeads(x, 2, 2, 0);
        x = loaded("head 0,0,1", "head 1,2,0");
        due("HALVE by 0", x.act(14, 0, 1, 2, 1), 0);
        due("HALVE by 0", x.cell(0, 1), bits((float) INF));
        x = loaded("head 0,2,-9", "head 1,0,1");
        due("PICK", x.act(15, 0, 1, 2, 1), 0);
        due("PICK, cell 2", x.cell(2, 2), bits(2.0 / 3 - 2));
        dueHeads(x, -9, 0, 0);
        due("acts", x.count(4), 1);
        for (int i = 0; i < 5; i++) {
            int[] a = {0, 0, 0, 0, 0};
            a[i] = i == 0 ? 16 : 10;
            due("too great", x.act(a[0], a[1], a[2], a[3], a[4]), NONE);
            a[i] = -1;
            due("below 0", x.act(a[0], a[1], a[2], a[3], a[4]), NONE);
        }
        due("none of these happened", x.count(4), 1);
    }

    private static void actRefused() {
        about("promise 7");
        EchoStudio x = loaded("head 0,0,0", "head 1,2,5");
        due("OFF", x.act(0, 0, 1, 2, 0), 2);
        dueHeads(x, 1, 6, 0);
        due("not set", x.cell(0, 0), bits(1.5f));
        due("refusals", x.count(5), 1);
        due("acts", x.count(4), 1);
        due("where", x.met(0, 2), NONE);
        x = loaded("head 0,2,0", "head 1,2,1");
        due("MISSING: not of singles, at the set", x.act(0, 0, 1, 2, 0), 1);
        dueHeads(x, 1, 2, 0);
        x = loaded("head 0,0,0", "head 1,9,1");
        due("MISSING: not there", x.act(0, 0, 1, 2, 0), 1);
        x = loaded("head 0,9,77", "head 1,2,1");
        due("MISSING ahead of OFF", x.act(0, 0, 1, 2, 0), 1);
        x = loaded("head 0,2,5", "head 1,0,1");
        due("MIX: told ahead", x.act(2, 0, 1, 2, 0), 2);
        dueHeads(x, 5, 1, 0);
        x = loaded("head 0,0,5", "head 1,1,3", "head 2,2,1");
        due("BOUNCE: the first is set last", x.act(4, 0, 1, 2, 0), 2);
        due("the second is set", x.cell(1, 3), bits((float) (1.0 / 3)));
        dueHeads(x, 6, 2, 2);
        x = loaded("head 0,0,0", "head 1,1,5", "head 2,2,1");
        due("BOUNCE: the second", x.act(4, 0, 1, 2, 0), 2);
        due("the first is not set", x.cell(0, 0), bits(1.5f));
        x = loaded("head 0,0,0", "head 1,1,0", "head 2,2,9");
        due("GRAIN: its place", x.act(7, 0, 1, 2, 0), 2);
        dueHeads(x, 1, 0, 10);
        x = loaded("head 0,0,0", "head 1,2,0", "head 2,0,5");
        due("SCATTER: its place, ahead of all", x.act(8, 0, 1, 2, 0), 2);
        dueHeads(x, 0, 0, 6);
        x = loaded("head 0,0,4");
        due("STAMMER: at the end", x.act(9, 0, 1, 2, 0), 2);
        dueHeads(x, 5, 0, 0);
        x = loaded("head 0,2,0", "head 1,3,0");
        due("SMOOTH: ahead of the first", x.act(10, 0, 1, 2, 0), 2);
        dueHeads(x, 1, 0, 0);
        x = loaded("head 0,2,0", "head 1,3,4");
        due("SMOOTH: behind the last", x.act(10, 0, 1, 2, 0), 2);
        dueHeads(x, 1, 5, 0);
        x = loaded("head 0,0,0", "head 1,2,5");
        due("SWELL", x.act(11, 0, 1, 2, 1), 2);
        due("the dial stays", x.dial(1), bits(-2.0));
        dueHeads(x, 1, 6, 0);
        x = loaded("head 0,3,0", "head 1,0,1", "head 2,2,5");
        due("CHASE", x.act(12, 0, 1, 2, 1), 2);
        due("nothing is set", x.cell(0, 1), bits(2.5f));
        dueHeads(x, 1, 2, 6);
        x = loaded("head 0,3,4");
        due("RING", x.act(13, 0, 1, 2, 1), 2);
        dueHeads(x, 5, 0, 0);
        x = loaded("head 0,3,-1");
        due("RING", x.act(13, 0, 1, 2, 1), 2);
        dueHeads(x, -1, 0, 0);
        x = loaded("head 0,2,0", "head 1,0,4", "head 3,0,4", "put 3=-1");
        due("PICK", x.act(15, 0, 1, 2, 1), 2);
        dueHeads(x, 0, 3, 0);
        x = loaded("head 0,0,999999*999999");
        due("FADE at the greatest place", x.act(3, 0, 0, 0, 0), 2);
        due("it goes round", x.head(0, 1), LEAST);
        x = loaded("head 0,0,0", "head 1,0,0");
        due("the same head twice", x.act(0, 0, 0, 0, 0), 1);
        due("is moved twice", x.head(0, 1), 2);
        x = loaded("head 0,2,0");
        due("ECHO of one head", x.act(6, 0, 0, 0, 0), 0);
        due("0 := 1 + 2 * g", x.cell(2, 0), bits(1.0 / 3 + 2.0 / 3 * 0.5));
        due("on, on, back", x.head(0, 1), 1);
    }

    private static void loop() {
        about("promise 8");
        EchoStudio x = played(1, "loop 0,4", "drum 11,0");
        due("singles", x.loop(0, 0), 0);
        due("length", x.loop(0, 1), 4);
        due("doubles", x.loop(11, 0), 1);
        due("length", x.loop(11, 1), 0);
        due("another what", x.loop(0, 2), NONE);
        due("another what", x.loop(0, -1), NONE);
        due("not there", x.loop(1, 0), NONE);
        due("below", x.loop(-1, 0), NONE);
        due("above", x.loop(12, 1), NONE);
        due("far", x.loop(LEAST, GREATEST), NONE);
    }

    private static void cell() {
        about("promise 9");
        EchoStudio x = played(1, "loop 0,2", "drum 1,2", "head 0,0,0", "head 1,1,0", "put 0=-1.5", "put 0=0.1", "put 1=-1.5", "put 1=0.1");
        due("a single", x.cell(0, 0), bits(-1.5f));
        due("a single", x.cell(0, 1), bits(0.1f));
        due("a double", x.cell(1, 0), bits(-1.5));
        due("a double", x.cell(1, 1), bits(0.1));
        due("off", x.cell(0, 2), 0);
        due("off", x.cell(1, -1), 0);
        due("not there", x.cell(2, 0), 0);
        due("none such", x.cell(12, 0), 0);
        due("none such", x.cell(-1, LEAST), 0);
        x = played(1, "loop 0,3", "head 0,0,0", "put 0=999999*999999*999999*999999*999999*999999*999999", "put 0=0.0001*0.0001*0.0001*0.0001"
                + "*0.0001*0.0001*0.0001*0.0001*0.0001*0.0001*0.0001", "put 0=-0");
        due("too great for a single", x.cell(0, 0), bits(Float.POSITIVE_INFINITY));
        due("a small one", x.cell(0, 1), bits((float) (0.0001 * 0.0001 * 0.0001 * 0.0001 * 0.0001 * 0.0001 * 0.0001 * 0.0001 * 0.0001
                * 0.0001 * 0.0001)));
        due("-0", x.cell(0, 2), bits(-0f));
    }

    private static void head() {
        about("promise 10");
        EchoStudio x = played(1, "head 9,11,-3");
        due("its loop", x.head(9, 0), 11);
        due("its place", x.head(9, 1), -3);
        due("another what", x.head(9, 2), 0);
        due("another what", x.head(9, -1), 0);
        due("none such", x.head(10, 0), 0);
        due("none such", x.head(-1, 1), 0);
    }

    private static void dial() {
        about("promise 11");
        EchoStudio x = played(1, "set 9=-0.1", "set 0=1");
        due("its bits", x.dial(9), bits(-0.1));
        due("its bits", x.dial(0), bits(1.0));
        due("none such", x.dial(10), 0);
        due("none such", x.dial(-1), 0);
        due("none such", x.dial(LEAST), 0);
    }

    private static void slot() {
        about("promise 12");
        EchoStudio x = played(3, "plug 11,3,1,2,3,4,2,5");
        int[] want = {3, 1, 2, 3, 4, 2, 5, 2};
        for (int w = 0; w < 8; w++) {
            due("slot(11, " + w + ")", x.slot(11, w), want[w]);
        }
        due("another what", x.slot(11, 8), NONE);
        due("another what", x.slot(11, -1), NONE);
        due("empty", x.slot(0, 0), NONE);
        due("none such", x.slot(12, 0), NONE);
        due("none such", x.slot(-1, 0), NONE);
    }

    private static void player() {
        about("promise 13");
        EchoStudio x = new EchoStudio();
        readText(x, "part a\nset 0=1\nwait 5\nset 0=2\nend\npart b\ndo a\nend\n");
        x.play(1);
        due("its part", x.player(0, 0), 1);
        due("parts", x.player(0, 1), 1);
        due("it doesn't wait", x.player(0, 2), NONE);
        due("lines", x.player(0, 3), 0);
        x.run(1);
        x.play(0);
        due("its part", x.player(0, 0), 0);
        due("parts", x.player(0, 1), 2);
        due("till", x.player(0, 2), 5);
        due("lines", x.player(0, 3), 3);
        due("the second", x.player(1, 3), 0);
        due("another what", x.player(0, 4), NONE);
        due("another what", x.player(0, -1), NONE);
        due("none such", x.player(2, 0), NONE);
        due("none such", x.player(-1, 0), NONE);
        x.run(5);
        due("the first ended", x.count(2), 1);
        due("the second is the first", x.player(0, 2), 6);
    }

    private static void count() {
        about("promise 14");
        EchoStudio x = played(1, "loop 0,2", "loop 1,3", "copy 2,0", "turn 1", "glide 0,1,9", "glide 1,1,9", "plug 0,3,0,0,0,0,1,0", "start two",
                "try", "drop 99", "on none", "end", "set 0=dial(99)", "end", "part two", "wait 9");
        due("NOW", x.count(0), 1);
        due("PARTS", x.count(1), 2);
        due("PLAYERS", x.count(2), 1);
        due("LINES", x.count(3), 12);
        due("ACTS", x.count(4), 1);
        due("refusals of ACTS", x.count(5), 0);
        x.act(3, 5, 0, 0, 0);
        x.act(0, 5, 5, 5, 0);
        due("ACTS", x.count(4), 3);
        due("refusals of ACTS", x.count(5), 1);
        due("refusals of LINES", x.count(6), 2);
        due("taken", x.count(7), 1);
        due("fell", x.count(8), 1);
        due("the latest", x.count(9), 1);
        due("LOOPS made", x.count(10), 4);
        due("CELLS made", x.count(11), 10);
        due("DIALS that GLIDE", x.count(12), 2);
        due("others", x.count(13), NONE);
        due("others", x.count(-1), NONE);
        due("others", x.count(LEAST), NONE);
    }

    private static void met() {
        about("promise 15");
        EchoStudio x = played(2, "plug 3,3,0,0,0,0,2,0", "wait 1", "do two", "end", "part two", "drop 99");
        due("NOW", x.met(0, 0), 1);
        due("kind", x.met(0, 1), 8);
        due("where", x.met(0, 2), 101);
        due("NOW", x.met(1, 0), 0);
        due("kind", x.met(1, 1), 1);
        due("where", x.met(1, 2), 3);
        due("none such", x.met(2, 0), NONE);
        due("none such", x.met(-1, 0), NONE);
        due("another what", x.met(0, 3), NONE);
        due("another what", x.met(0, -1), NONE);
        x.act(3, 0, 0, 0, 0);
        due("where", x.met(0, 2), NONE);
        due("NOW", x.met(0, 0), 2);
        due("where", x.met(1, 2), 101);
        for (int i = 0; i < 27; i++) {
            x.act(3, 0, 0, 0, 0);
        }
        due("the thirtieth", x.met(29, 2), 3);
        due("a thirty-first", x.met(30, 0), NONE);
        x.act(3, 0, 0, 0, 0);
        due("30 are kept", x.met(29, 2), 101);
        due("a thirty-first", x.met(30, 0), NONE);
        due("far", x.met(GREATEST, 0), NONE);
    }

    private static void peak() {
        about("promise 16");
        EchoStudio x = played(1, "loop 0,3", "drum 1,2", "loop 2,0", "loop 3,2", "head 0,0,0", "put 0=1", "put 0=-2.1", "head 1,1,0", "put 1=0.1",
                "head 3,3,1", "put 3=-0");
        due("of singles", x.peak(0), bits((double) 2.1f));
        due("of doubles", x.peak(1), bits(0.1));
        due("without cells", x.peak(2), 0);
        due("of zeros", x.peak(3), 0);
        due("without the loop", x.peak(4), 0);
        due("none such", x.peak(12), 0);
        due("none such", x.peak(-1), 0);
        x = played(1, "loop 0,2", "drum 1,2", "head 0,0,0", "head 1,1,0", "put 0=9", "burst 14,0,1,0,0,1");
        due("NaN", x.peak(0), bits(NAN));
        x.act(14, 0, 1, 0, 0);
        x = played(1, "loop 0,2", "drum 1,2", "head 0,0,0", "head 1,1,0", "put 0=-9", "head 0,0,0", "burst 14,0,1,0,0,1");
        due("the infinite", x.peak(0), bits(INF));
    }
}
