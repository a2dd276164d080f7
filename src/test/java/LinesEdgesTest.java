/** The edges of the LINES: each refusal that each of them can have, what of it is done then, and the numbers at their ends. */
public final class LinesEdgesTest extends Probe {
    private static final int MISSING = 1;
    private static final int OFF = 2;
    private static final int SIZE = 3;
    private static final int ROOM = 4;
    private static final int ZERO = 5;
    private static final int NO_SUCH = 8;

    public static void main(String[] args) {
        noneOfEachLine();
        noneOfEachFactor();
        missingAndOffOfFactors();
        zero();
        aRefusalWithinEachE();
        fromTheLeftToTheRight();
        allEsAheadOfWhatIsAskedBesides();
        whatWasWorkedOutMovesNothing();
        lengthsOfLoopAndDrum();
        theSixtiethAndTheSixtyFirstMade();
        sixThousandCellsAndOneMore();
        roomIsNotGivenBack();
        aRefusedOneIsNotMade();
        copy();
        turn();
        drop();
        head();
        set();
        put();
        glideBelowOne();
        glideOfOneTick();
        glideOfSeveralTicks();
        glideOfVeryMany();
        aSecondGlide();
        whatEndsAGlide();
        aGlideOfOddOnes();
        plugRefused();
        burstOfNone();
        burstOfThreeHundred();
        burstRefusedInTheMidst();
        burstAndItsDial();
        scenes();
        recallOfNothingKept();
        sumAndLoud();
        nowAndHurt();
        factorsWithinSums();
        finish();
    }

    /** All that these LINES could change, brought to one number: refused LINES leave it. */
    private static long state(EchoStudio x) {
        long all = 0;
        for (int n = 0; n < 12; n++) {
            all = all * 31 + x.loop(n, 0) * 7 + x.loop(n, 1);
            for (int i = 0; i < 3; i++) {
                all = all * 31 + x.cell(n, i);
            }
            all = all * 31 + x.slot(n, 0) * 5 + x.slot(n, 5) * 3 + x.slot(n, 6);
        }
        for (int h = 0; h < 10; h++) {
            all = all * 31 + x.head(h, 0);
            all = all * 31 + x.head(h, 1);
            all = all * 31 + x.dial(h);
        }
        return ((all * 31 + x.count(10)) * 31 + x.count(11)) * 31 + x.count(12);
    }

    private static final String READY = lines("loop 1,3", "drum 2,3", "head 1,1,0", "put 1=5", "head 2,2,1", "put 2=6", "head 2,2,3", "set 3=4",
            "plug 4,3,5,0,0,0,7,0", "head 5,1,0", "wait 1");

    /** A LINE behind others is refused with this kind, and nothing of it is done. */
    private static void dueRefused(String line, int want) {
        EchoStudio x = played(1, READY + line, "set 9=77");
        long before = state(x);
        due(line + ": none ahead", x.count(9), 0);
        x.run(1);
        due(line, x.count(9), want);
        due(line + ": a LINE's", x.count(6), 1);
        due(line + ": nothing of it is done", state(x) == before ? 1 : 0, 1);
        due(line + ": it FELL", x.count(8), 1);
        due(line + ": what is behind it is not done", x.dial(9), 0);
        due(line + ": its PART", x.met(0, 2), 100);
        due(line + ": NOW then", x.met(0, 0), 1);
    }

    private static void noneOfEachLine() {
        about("NONE: there is none such");
        String[] loops = {"loop #,1", "drum #,1", "drop #", "head 0,#,0", "copy #,1", "copy 0,#", "turn #"};
        String[] heads = {"head #,0,0", "put #=1", "plug 0,0,#,0,0,0,1,0", "plug 0,0,0,#,0,0,1,0", "plug 0,0,0,0,#,0,1,0", "burst 3,#,0,0,0,1",
            "burst 3,0,#,0,0,1", "burst 3,0,0,#,0,1"};
        String[] dials = {"set #=1", "glide #,1,1", "plug 0,0,0,0,0,#,1,0", "burst 3,0,0,0,#,1"};
        String[] slots = {"plug #,0,0,0,0,0,1,0", "pull #"};
        String[] kinds = {"plug 0,#,0,0,0,0,1,0", "burst #,0,0,0,0,1"};
        String[] scenes = {"scene #", "recall #"};
        dueNone(loops, 12);
        dueNone(heads, 10);
        dueNone(dials, 10);
        dueNone(slots, 12);
        dueNone(kinds, 16);
        dueNone(scenes, 4);
    }

    private static void dueNone(String[] some, int first) {
        for (String line : some) {
            dueRefused(line.replace("#", "" + first), NO_SUCH);
            dueRefused(line.replace("#", "-1"), NO_SUCH);
            dueRefused(line.replace("#", "999999*999999"), NO_SUCH);
            dueRefused(line.replace("#", "-999999*999999"), NO_SUCH);
        }
    }

    private static void noneOfEachFactor() {
        about("NONE of a FACTOR");
        for (String word : new String[] {"length", "sum", "loud"}) {
            for (String n : new String[] {"12", "-1", "999999*999999", "-999999*999999"}) {
                dueRefused("set 0=" + word + "(" + n + ")", NO_SUCH);
            }
        }
        for (String word : new String[] {"dial", "cell", "place"}) {
            for (String n : new String[] {"10", "-1", "999999*999999", "-999999*999999"}) {
                dueRefused("set 0=" + word + "(" + n + ")", NO_SUCH);
            }
        }
        due("the last ones", refused("drum 11,1", "head 9,11,0", "set 9=dial(9)+cell(9)+place(9)+length(11)+sum(11)+loud(11)"), 0);
        due("THE WHOLE of it", refused("loop 0,1", "set 9=dial(-0.9999)+cell(9.9999)+place(9.9999)+length(0.9999)"), 0);
    }

    private static void missingAndOffOfFactors() {
        about("MISSING and OFF of a FACTOR");
        dueRefused("set 0=length(0)", MISSING);
        dueRefused("set 0=sum(0)", MISSING);
        dueRefused("set 0=loud(0)", MISSING);
        dueRefused("set 0=cell(0)", MISSING);
        dueRefused("set 0=cell(2)", OFF);
        due("at -1", refused("loop 0,3", "head 0,0,-1", "set 0=cell(0)"), OFF);
        due("at the last", refused("loop 0,3", "head 0,0,2", "set 0=cell(0)"), 0);
        due("at an int's end", refused("loop 0,3", "head 0,0,999999*999999", "set 0=cell(0)"), OFF);
        due("at an int's end", refused("loop 0,3", "head 0,0,-999999*999999", "set 0=cell(0)"), OFF);
        EchoStudio x = played(1, "loop 0,3", "head 0,0,2", "put 0=7", "head 0,0,2", "set 9=cell(0)+cell(0)");
        due("cell does not move its HEAD", x.head(0, 1), 2);
        due("its CELL", x.dial(9), bits(14.0));
        x = played(1, "head 0,7,-5", "set 9=place(0)");
        due("place wants no LOOP", x.dial(9), bits(-5.0));
    }

    private static void zero() {
        about("ZERO");
        dueRefused("set 0=1/0", ZERO);
        dueRefused("set 0=1/-0", ZERO);
        dueRefused("set 0=0/0", ZERO);
        dueRefused("set 0=1/(2-2)", ZERO);
        dueRefused("set 0=1/dial(0)", ZERO);
        dueRefused("set 0=1/2/0/3", ZERO);
        dueRefused("loop 1/0,1", ZERO);
        due("a small one is none", refused("set 0=1/0.0001"), 0);
        due("a NaN is none", refused("set 0=65536*65536", repeated("set 0=dial(0)*dial(0)\n", 4) + "set 0=dial(0)*dial(0)", "set 1=1/(dial(0)-dial(0))"), 0);
        due("an infinite one is none", refused("set 0=65536*65536", repeated("set 0=dial(0)*dial(0)\n", 4) + "set 0=dial(0)*dial(0)", "set 1=1/dial(0)"), 0);
        due("0 / 1", refused("set 0=0/1"), 0);
    }

    private static void aRefusalWithinEachE() {
        about("a refusal within an E");
        String[] some = {"loop #,#", "drum #,#", "drop #", "head #,#,#", "set #=#", "put #=#", "glide #,#,#", "plug #,#,#,#,#,#,#,#", "pull #",
            "burst #,#,#,#,#,#", "copy #,#", "turn #", "scene #", "recall #", "wait #", "if #<#", "while #=#"};
        for (String line : some) {
            int sums = line.length() - line.replace("#", "").length();
            for (int i = 0; i < sums; i++) {
                StringBuilder filled = new StringBuilder();
                int seen = 0;
                for (char c : line.toCharArray()) {
                    filled.append(c != '#' ? "" + c : seen++ == i ? "1/0" : "1");
                }
                boolean block = line.startsWith("if") || line.startsWith("while");
                dueRefused(filled + (block ? "\nset 8=1\nend" : ""), ZERO);
            }
        }
    }

    private static void fromTheLeftToTheRight() {
        about("from the left to the right, each refusal within at once");
        dueRefused("set 1/0=dial(10)", ZERO);
        dueRefused("set dial(10)=1/0", NO_SUCH);
        dueRefused("head cell(0),cell(2),1/0", MISSING);
        dueRefused("head cell(2),cell(0),1/0", OFF);
        dueRefused("set 0=cell(0)+1/0", MISSING);
        dueRefused("set 0=1/0+cell(0)", ZERO);
        dueRefused("set 0=1/0*cell(0)", ZERO);
        dueRefused("set 0=cell(0)/0", MISSING);
        dueRefused("set 0=1/(cell(2)-cell(2))", OFF);
        dueRefused("set 0=least(cell(2),1/0)", OFF);
        dueRefused("set 0=dial(length(0)+1/0)", MISSING);
        dueRefused("set 0=-(1/0)+length(0)", ZERO);
        dueRefused("if cell(0)<1/0\nend", MISSING);
        dueRefused("if 1/0<cell(0)\nend", ZERO);
        dueRefused("set 0=1+2*cell(2)/0", OFF);
    }

    private static void allEsAheadOfWhatIsAskedBesides() {
        about("all E's ahead of what is asked besides");
        dueRefused("loop 12,1/0", ZERO);
        dueRefused("head 10,12,1/0", ZERO);
        dueRefused("set 10=1/0", ZERO);
        dueRefused("put 0=1/0", ZERO);
        dueRefused("put 10=cell(2)", OFF);
        dueRefused("glide 10,1,1/0", ZERO);
        dueRefused("plug 12,16,10,10,10,10,0,1/0", ZERO);
        dueRefused("burst 16,10,10,10,10,1/0", ZERO);
        dueRefused("copy 12,1/0", ZERO);
        dueRefused("loop -1,-1", NO_SUCH);
        dueRefused("loop 12,301", NO_SUCH);
        dueRefused("copy 12,0", NO_SUCH);
        dueRefused("copy 0,12", NO_SUCH);
        dueRefused("put 10=1", NO_SUCH);
    }

    private static void whatWasWorkedOutMovesNothing() {
        about("what was worked out within E's moves nothing");
        EchoStudio x = played(1, "loop 1,3", "head 1,1,0", "head 2,1,1", "set 9=cell(1)+cell(2)+place(1)", "put 1=cell(2)+cell(0)");
        due("MISSING", x.count(9), MISSING);
        due("HEAD 1", x.head(1, 1), 0);
        due("HEAD 2", x.head(2, 1), 1);
    }

    private static void lengthsOfLoopAndDrum() {
        about("loop and drum at each l");
        for (String word : new String[] {"loop", "drum"}) {
            int sort = word.equals("drum") ? 1 : 0;
            dueRefused(word + " 1,-1", SIZE);
            dueRefused(word + " 1,-999999*999999", SIZE);
            dueRefused(word + " 1,301", ROOM);
            dueRefused(word + " 1,999999*999999", ROOM);
            for (int l : new int[] {0, 1, 299, 300}) {
                EchoStudio x = played(1, word + " 1," + l);
                due(word + " 1," + l, x.loop(1, 1), l);
                due(word + " 1," + l, x.loop(1, 0), sort);
                due(word + " 1," + l, x.count(9), 0);
                due("CELLS made", x.count(11), l);
            }
            due("THE WHOLE of l", played(1, word + " 1,2.9999").loop(1, 1), 2);
            due("THE WHOLE of l", played(1, word + " 1,0.9999").loop(1, 1), 0);
            due("THE WHOLE of n", played(1, word + " 1.9999,3").loop(1, 1), 3);
        }
    }

    private static void theSixtiethAndTheSixtyFirstMade() {
        about("the 60th made and the 61st");
        String[] some = {"loop 1,0", "drum 1,0", "copy 1,0", "turn 0"};
        for (String line : some) {
            EchoStudio x = played(7, "loop 0,0", "set 0=1", "while dial(0)<59", "loop 2,1", "set 0=dial(0)+1", "end", line, "set 9=1", "wait 1", line, "set 9=2");
            due(line + ": the 60th", x.count(10), 60);
            due(line + ": the 61st", x.count(9), ROOM);
            due("it was done till there", x.dial(9), bits(1.0));
            due("CELLS made", x.count(11), 58);
        }
        EchoStudio x = played(5, "loop 0,2", "set 0=1", "while dial(0)<60", "turn 0", "set 0=dial(0)+1", "end", "drum 0,3");
        due("the one that was there stays", x.loop(0, 1), 2);
        due("turned 59 times", x.loop(0, 0), 1);
        due("NONE ahead of ROOM", playedMore(x, "loop 12,0"), NO_SUCH);
        due("SIZE ahead of ROOM", playedMore(x, "loop 0,-1"), SIZE);
        due("MISSING ahead of ROOM", playedMore(x, "copy 0,5"), MISSING);
        due("MISSING ahead of ROOM", playedMore(x, "turn 5"), MISSING);
        due("ROOM of copy", playedMore(x, "copy 5,0"), ROOM);
        due("ROOM of turn", playedMore(x, "turn 0"), ROOM);
        due("its LINES behind are done as ever", playedMore(x, "set 5=1/0"), ZERO);
    }

    private static int playedMore(EchoStudio x, String... some) {
        playMore(x, 1, some);
        return x.count(9);
    }

    /** So many CELLS are made, with fewer than 60 LOOPS; LOOPS 0 and 1 are of LENGTHS 300 and 1. */
    private static EchoStudio made(int cells) {
        int rest = cells - 301;
        return played(4, "loop 0,300", "loop 1,1", "set 0=" + rest / 300, "while dial(0)>0", "drum 2,300", "set 0=dial(0)-1", "end", "drum 2," + rest % 300,
                "set 9=1");
    }

    private static void sixThousandCellsAndOneMore() {
        about("6,000 CELLS and one more");
        EchoStudio x = made(5700);
        due("ready", x.dial(9), bits(1.0));
        due("5,700", x.count(11), 5700);
        due("loop: 6,000", playedMore(x, "loop 5,300"), 0);
        due("6,000", x.count(11), 6000);
        due("loop: one more", playedMore(x, "loop 5,1"), ROOM);
        due("it stays", x.loop(5, 1), 300);
        due("of none", playedMore(x, "loop 5,0", "drop 99"), NO_SUCH);
        due("of none", x.loop(5, 1), 0);
        x = made(5701);
        due("loop: 6,001", playedMore(x, "loop 5,300"), ROOM);
        due("drum: 6,001", playedMore(x, "drum 5,300"), ROOM);
        due("drum: 6,000", playedMore(x, "drum 5,299", "drop 99"), NO_SUCH);
        due("drum: 6,000", x.count(11), 6000);
        x = made(5700);
        due("copy: 6,000", playedMore(x, "copy 5,0"), 0);
        due("copy: one more", playedMore(x, "copy 6,1"), ROOM);
        due("6,000", x.count(11), 6000);
        due("not there", x.loop(6, 0), NONE);
        x = made(5700);
        due("turn: 6,000", playedMore(x, "turn 0"), 0);
        due("turn: one more", playedMore(x, "turn 1"), ROOM);
        due("it stays", x.loop(1, 0), 0);
        x = made(5701);
        due("copy: 6,001", playedMore(x, "copy 5,0"), ROOM);
        due("turn: 6,001", playedMore(x, "turn 0"), ROOM);
        due("copy of one CELL", playedMore(x, "copy 5,1", "drop 99"), NO_SUCH);
        due("5,702", x.count(11), 5702);
    }

    private static void roomIsNotGivenBack() {
        about("what is made stays counted");
        EchoStudio x = played(3, "set 0=20", "while dial(0)>0", "loop 0,300", "drop 0", "set 0=dial(0)-1", "end", "loop 0,1");
        due("ROOM", x.count(9), ROOM);
        due("LOOPS", x.count(10), 20);
        due("CELLS", x.count(11), 6000);
    }

    private static void aRefusedOneIsNotMade() {
        about("a refused one is not made");
        EchoStudio x = played(1, "try", "loop 0,301", "on any", "end", "try", "loop 0,-1", "on any", "end", "try", "copy 0,1", "on any", "end", "try",
                "turn 0", "on any", "end", "try", "loop 12,5", "on any", "end");
        due("LOOPS", x.count(10), 0);
        due("CELLS", x.count(11), 0);
        due("refused", x.count(6), 5);
    }

    private static void copy() {
        about("copy");
        dueRefused("copy 1,0", MISSING);
        dueRefused("copy 0,0", MISSING);
        EchoStudio x = played(1, "drum 2,2", "head 0,2,0", "put 0=0.1", "put 0=-0", "copy 11,2", "head 0,2,0", "put 0=5", "drop 2");
        due("its sort", x.loop(11, 0), 1);
        due("its LENGTH", x.loop(11, 1), 2);
        due("its CELLS", x.cell(11, 0), bits(0.1));
        due("its CELLS", x.cell(11, 1), bits(-0.0));
        due("made", x.count(10), 2);
        due("CELLS made", x.count(11), 4);
        x = played(1, "loop 0,2", "put 0=3", "copy 0,0", "copy 0,0");
        due("of itself", x.cell(0, 0), bits(3f));
        due("two more made", x.count(10), 3);
        due("CELLS made", x.count(11), 6);
        due("the HEAD stays", x.head(0, 1), 1);
    }

    private static void turn() {
        about("turn");
        dueRefused("turn 0", MISSING);
        EchoStudio x = played(1, "drum 2,3", "head 0,2,0", "put 0=0.1", "put 0=-0", "put 0=999999*999999", "turn 2");
        due("of SINGLES", x.loop(2, 0), 0);
        due("the nearest", x.cell(2, 0), bits(0.1f));
        due("-0", x.cell(2, 1), bits(-0f));
        due("the nearest", x.cell(2, 2), bits((float) (999999.0 * 999999.0)));
        due("the HEAD stays", x.head(0, 1), 3);
        playMore(x, 1, "turn 2");
        due("of DOUBLES", x.loop(2, 0), 1);
        due("as it is", x.cell(2, 0), bits((double) 0.1f));
        due("-0", x.cell(2, 1), bits(-0.0));
        due("made", x.count(10), 3);
        due("CELLS made", x.count(11), 9);
    }

    private static void drop() {
        about("drop");
        EchoStudio x = played(1, "loop 0,2", "loop 11,2", "drop 0", "drop 11", "drop 5", "set 9=1");
        due("not there", x.loop(0, 0), NONE);
        due("not there", x.loop(11, 0), NONE);
        due("no refusal", x.dial(9), bits(1.0));
        due("a copy of it", refused("loop 0,2", "drop 0", "copy 1,0"), MISSING);
    }

    private static void head() {
        about("head");
        EchoStudio x = played(1, "head 0,0,-999999*999999", "head 9,11,999999*999999", "head 5,6.9999,-7.9999");
        due("the least PLACE", x.head(0, 1), LEAST);
        due("the greatest PLACE", x.head(9, 1), GREATEST);
        due("its LOOP", x.head(9, 0), 11);
        due("THE WHOLE", x.head(5, 0), 6);
        due("THE WHOLE", x.head(5, 1), -7);
        x = played(1, "head 0,3,5", "head 0,12,7");
        due("refused: its LOOP stays", x.head(0, 0), 3);
        due("refused: its PLACE stays", x.head(0, 1), 5);
    }

    private static void set() {
        about("set");
        EchoStudio x = played(1, "set 0=1/3", "set 9=-0", "set 4.9999=7");
        due("as it is", x.dial(0), bits(1.0 / 3));
        due("-0", x.dial(9), bits(-0.0));
        due("THE WHOLE of g", x.dial(4), bits(7.0));
        due("of itself", played(1, "set 0=3", "set 0=dial(0)*dial(0)").dial(0), bits(9.0));
    }

    private static void put() {
        about("put");
        dueRefused("put 0=1", MISSING);
        dueRefused("put 2=1", OFF);
        EchoStudio x = played(1, "loop 0,2", "drum 1,2", "head 1,1,0", "put 0=0.1", "put 1=0.1", "put 0=1", "put 1=2");
        due("into a SINGLE", x.cell(0, 0), bits(0.1f));
        due("into a DOUBLE", x.cell(1, 0), bits(0.1));
        due("it moved on", x.head(0, 1), 2);
        due("it moved on", x.head(1, 1), 2);
        x = played(1, "loop 0,2", "head 0,0,2", "put 0=9");
        due("OFF: h stays", x.head(0, 1), 2);
        x = played(1, "loop 0,2", "head 0,0,-1", "put 0=9");
        due("OFF: h stays", x.head(0, 1), -1);
        due("not SET", x.cell(0, 0), 0);
        x = played(1, "head 0,5,1", "put 0=9");
        due("MISSING: h stays", x.head(0, 1), 1);
        x = played(1, "loop 0,2", "put 0=cell(0)+1", "head 0,0,0", "put place(0)=cell(0)+1");
        due("of its own CELL", x.cell(0, 0), bits(2f));
    }

    private static void glideBelowOne() {
        about("glide with a number below 1: as set");
        for (String n : new String[] {"0", "-0", "0.9999", "-1", "-999999*999999"}) {
            EchoStudio x = played(0, "set 3=1", "glide 3,5," + n, "set 4=dial(3)");
            x.run(1);
            due("at once", x.dial(4), bits(5.0));
            due("it stays", x.dial(3), bits(5.0));
            due("it doesn't GLIDE", x.count(12), 0);
        }
        EchoStudio x = played(2, "glide 3,10,5", "wait 1", "glide 3,7,0");
        due("it ends one that GLIDES", x.dial(3), bits(7.0));
        due("it ends one that GLIDES", x.count(12), 0);
    }

    private static void glideOfOneTick() {
        about("glide with 1");
        EchoStudio x = played(1, "set 3=1", "glide 3,5,1", "set 4=dial(3)");
        due("not at once", x.dial(4), bits(1.0));
        due("in this tick", x.dial(3), bits(5.0));
        due("it GLIDES no more", x.count(12), 0);
        x = played(1, "set 3=1", "glide 3,0.3,1.9999");
        due("what was told", x.dial(3), bits(0.3));
    }

    private static void glideOfSeveralTicks() {
        about("glide of several ticks");
        EchoStudio x = played(1, "set 3=1", "glide 3,0.1,3");
        double step = (0.1 - 1) / 3;
        due("the first", x.dial(3), bits(1 + step));
        due("it GLIDES", x.count(12), 1);
        x.run(1);
        due("the second", x.dial(3), bits(1 + step + step));
        due("it GLIDES", x.count(12), 1);
        x.run(1);
        due("in its last tick what was told", x.dial(3), bits(0.1));
        due("it GLIDES no more", x.count(12), 0);
        x.run(5);
        due("it stays", x.dial(3), bits(0.1));
        x = played(1, "set 3=1", "glide 3,2,2", "glide 0,2,2", "glide 9,2,2");
        due("three", x.count(12), 3);
        x.run(1);
        due("none", x.count(12), 0);
        x = played(2, "glide 3,9,3", "wait 1", "set 4=dial(3)*dial(3)");
        due("a LINE is told what it is", x.dial(4), bits(9.0));
        x = played(1, "set 3=5", "glide 3,5,9");
        due("to what it is", x.dial(3), bits(5.0));
        due("it GLIDES", x.count(12), 1);
    }

    private static void glideOfVeryMany() {
        about("glide of very many ticks");
        EchoStudio x = played(3, "glide 3,65536,65536", "glide 4,1,999999*999999");
        due("a STEP of 1", x.dial(3), bits(3.0));
        double step = 1.0 / 2147483647.0;
        due("m is the greatest int", x.dial(4), bits(step + step + step));
        due("they GLIDE", x.count(12), 2);
    }

    private static void aSecondGlide() {
        about("a second glide of a DIAL that GLIDES");
        EchoStudio x = played(2, "glide 3,10,10", "wait 1", "glide 3,0,2");
        due("from what it is", x.dial(3), bits(0.5));
        due("one GLIDES", x.count(12), 1);
        x.run(1);
        due("to what was told", x.dial(3), 0);
        due("none GLIDES", x.count(12), 0);
        x.run(9);
        due("the first is forgotten", x.dial(3), 0);
        x = played(1, "glide 3,10,10", "glide 3,4,4");
        due("in the same tick", x.dial(3), bits(1.0));
        due("one GLIDES", x.count(12), 1);
        x = played(2, "glide 3,10,10", "wait 1", "glide 3,8,1");
        due("of one tick", x.dial(3), bits(8.0));
        due("none GLIDES", x.count(12), 0);
    }

    private static void whatEndsAGlide() {
        about("what ends a GLIDE, and what does not");
        EchoStudio x = played(2, "glide 3,10,10", "wait 1", "set 3=7");
        due("set", x.dial(3), bits(7.0));
        due("set", x.count(12), 0);
        x = played(2, "glide 3,10,10", "glide 4,10,10", "scene 0", "wait 1", "recall 0");
        due("recall: what was kept", x.dial(3), 0);
        due("recall: of all", x.count(12), 0);
        x = played(2, "glide 3,10,10", "wait 1", "try", "set 3=1/0", "on any", "end");
        due("not a set that is refused", x.dial(3), bits(2.0));
        x = played(2, "glide 3,10,10", "wait 1", "try", "glide 3,1/0,1", "on any", "end", "try", "recall 3", "on any", "end");
        due("not a glide, a recall that is refused", x.dial(3), bits(2.0));
        x = played(2, "loop 0,5", "drum 1,5", "head 0,0,0", "put 0=3", "head 0,0,0", "head 1,1,0", "put 1=5", "head 1,1,0", "glide 3,10,10", "wait 1",
                "burst 11,0,1,0,3,1");
        due("not SWELL: 1 and 15 and a STEP", x.dial(3), bits(17.0));
        due("not SWELL", x.count(12), 1);
        x.run(8);
        due("in its last tick what was told", x.dial(3), bits(10.0));
        x = played(1, "glide 3,10,10");
        due("a fault", readText(x, "@"), 1);
        due("not a read", readText(x, part("a")), 0);
        x.run(1);
        due("not a read", x.dial(3), bits(2.0));
    }

    private static void aGlideOfOddOnes() {
        about("a glide from and to odd ones");
        String infinite = lines("set 0=65536*65536") + repeated("set 0=dial(0)*dial(0)\n", 5);
        EchoStudio x = played(1, infinite + "glide 3,dial(0),2");
        due("to the infinite: a STEP", x.dial(3), bits(INF));
        x.run(1);
        due("to the infinite", x.dial(3), bits(INF));
        x = played(1, infinite + "set 3=dial(0)", "glide 3,0,2");
        due("from the infinite: a STEP", x.dial(3), bits(NAN));
        x.run(1);
        due("what was told", x.dial(3), 0);
        x = played(1, infinite + "set 3=-0", "glide 3,0,2");
        due("from -0 to 0", x.dial(3), 0);
        x = played(1, infinite + "glide 3,-0,1");
        due("to -0", x.dial(3), bits(-0.0));
    }

    private static void plugRefused() {
        about("plug: NONE");
        String[] wrong = {"plug 4,16,0,0,0,0,1,0", "plug 4,0,10,0,0,0,1,0", "plug 4,0,0,10,0,0,1,0", "plug 4,0,0,0,10,0,1,0", "plug 4,0,0,0,0,10,1,0",
            "plug 4,0,0,0,0,0,0,0", "plug 4,0,0,0,0,0,61,0", "plug 4,0,0,0,0,0,1,6", "plug 4,0,0,0,0,0,1,99", "plug 4,0,0,0,0,0,1,130"};
        for (String line : wrong) {
            dueRefused(line, NO_SUCH);
        }
        EchoStudio x = played(1, "loop 0,2", "plug 11.9,15.9,9.9,8.9,7.9,6.9,60.9,5.9");
        int[] want = {15, 9, 8, 7, 6, 60, 5};
        for (int what = 0; what < 7; what++) {
            due("THE WHOLE of each", x.slot(11, what), want[what]);
        }
    }

    private static void burstOfNone() {
        about("burst with a number below 1");
        for (String n : new String[] {"0", "-0", "0.9999", "-1", "-999999*999999"}) {
            EchoStudio x = played(1, "burst 3,0,0,0,0," + n, "set 9=1");
            due("no ACT", x.count(4), 0);
            due("no refusal", x.count(6), 0);
            due("it goes on", x.dial(9), bits(1.0));
        }
        dueRefused("burst 16,0,0,0,0,0", NO_SUCH);
        dueRefused("burst 3,10,0,0,0,0", NO_SUCH);
        dueRefused("burst 3,0,10,0,0,-1", NO_SUCH);
        dueRefused("burst 3,0,0,10,0,0", NO_SUCH);
        dueRefused("burst 3,0,0,0,10,0", NO_SUCH);
    }

    private static void burstOfThreeHundred() {
        about("burst of 1, 300 and 301");
        EchoStudio x = played(1, "loop 0,300", "burst 3,0,0,0,0,300", "set 9=1");
        due("300 ACTS", x.count(4), 300);
        due("300 PLACES", x.head(0, 1), 300);
        due("not refused", x.dial(9), bits(1.0));
        x = played(1, "loop 0,300", "burst 3,0,0,0,0,300.9999");
        due("THE WHOLE of n", x.count(4), 300);
        x = played(1, "loop 0,300", "burst 3,0,0,0,0,1");
        due("1", x.count(4), 1);
        dueRefused("burst 3,1,0,0,0,301", NO_SUCH);
        dueRefused("burst 3,1,0,0,0,999999*999999", NO_SUCH);
        due("no ACT of 301", played(1, "loop 0,300", "burst 3,0,0,0,0,301").count(4), 0);
        x = played(1, "loop 0,300", "burst 3,0,0,0,0,300", "head 0,0,0", "burst 3,0,0,0,0,300");
        due("two LINES", x.count(3), 4);
        due("600 ACTS", x.count(4), 600);
    }

    private static void burstRefusedInTheMidst() {
        about("the first ACT that is REFUSED ends a burst");
        EchoStudio x = played(1, "loop 0,5", "set 0=2", "while place(0)<5", "put 0=1", "end", "head 0,0,2", "try", "burst 3,0,0,0,0,9", "on off", "set 9=hurt", "end");
        due("ACTS, the refused one too", x.count(4), 4);
        due("no ACT's refusal", x.count(5), 0);
        due("this LINE's", x.count(6), 1);
        due("an on took it", x.dial(9), bits(2.0));
        due("where", x.met(0, 2), 100);
        due("its kind", x.met(0, 1), OFF);
        due("what was SET stays", x.cell(0, 4), bits(2f));
        due("what was not", x.cell(0, 1), bits(1f));
        due("what was moved stays", x.head(0, 1), 6);
        x = played(1, "burst 3,0,0,0,0,300");
        due("MISSING at once", x.count(9), MISSING);
        due("one ACT", x.count(4), 1);
        due("it moved", x.head(0, 1), 1);
        x = played(1, "loop 0,5", "burst 3,0,0,0,0,6");
        due("the last one", x.count(9), OFF);
        due("six ACTS", x.count(4), 6);
        x = played(1, "loop 0,5", "burst 3,0,0,0,0,5");
        due("none", x.count(9), 0);
    }

    private static void burstAndItsDial() {
        about("each ACT of a burst has the DIAL as it is");
        EchoStudio x = played(1, "loop 0,3", "drum 1,3", "while place(0)<3", "put 0=2", "end", "head 1,1,0", "put 1=3", "put 1=3", "put 1=3", "head 0,0,0",
                "head 1,1,0", "set 4=1", "burst 11,0,1,9,4,3");
        due("SWELL three times", x.dial(4), bits(19.0));
    }

    private static void scenes() {
        about("scene and recall");
        EchoStudio x = played(1, "loop 5,2", "head 9,5,-3", "head 0,7,65536*32768-1", "set 0=-0", "set 9=1/3", "scene 0", "head 9,1,1", "head 0,1,1", "set 0=5",
                "set 9=5", "head 4,4,4", "scene 3", "drop 5", "recall 0");
        due("HEADS' LOOPS", x.head(9, 0), 5);
        due("HEADS' PLACES", x.head(9, 1), -3);
        due("HEADS' LOOPS", x.head(0, 0), 7);
        due("HEADS' PLACES", x.head(0, 1), GREATEST);
        due("what was not touched then", x.head(4, 0), 0);
        due("DIALS", x.dial(0), bits(-0.0));
        due("DIALS", x.dial(9), bits(1.0 / 3));
        due("no LOOPS", x.loop(5, 0), NONE);
        playMore(x, 1, "recall 3");
        due("another one", x.head(9, 0), 1);
        due("another one", x.head(4, 1), 4);
        due("another one", x.dial(9), bits(5.0));
        playMore(x, 1, "scene 0", "set 9=6", "recall 0");
        due("kept anew", x.dial(9), bits(5.0));
        playMore(x, 1, "set 9=7", "recall 0", "recall 0");
        due("kept on", x.dial(9), bits(5.0));
        due("THE WHOLE of n", refused("scene 3.9999", "recall 3"), 0);
    }

    private static void recallOfNothingKept() {
        about("recall with nothing kept");
        for (int n = 0; n < 4; n++) {
            dueRefused("recall " + n, MISSING);
        }
        due("another one is kept", refused("scene 0", "scene 1", "scene 3", "recall 2"), MISSING);
        due("NONE ahead of MISSING", refused("recall 4"), NO_SUCH);
    }

    private static void sumAndLoud() {
        about("sum and loud");
        String row = lines("loop 1,4", "head 1,1,0", "put 1=0.1", "put 1=-7", "put 1=0.2", "put 1=7");
        EchoStudio x = played(1, row + "set 0=sum(1)", "set 1=loud(1)", "turn 1", "set 2=sum(1)", "set 3=loud(1)");
        due("one after the other", x.dial(0), bits(((0.0 + 0.1f) - 7 + (double) 0.2f) + 7));
        due("the greatest size", x.dial(1), bits(7.0));
        due("as DOUBLES", x.dial(2), bits(((0.0 + 0.1f) - 7 + (double) 0.2f) + 7));
        due("the greatest size", x.dial(3), bits(7.0));
        x = played(1, "loop 1,2", "head 1,1,0", "put 1=-0", "put 1=-0", "set 0=sum(1)", "set 1=loud(1)");
        due("from 0 on: 0 and -0 is 0", x.dial(0), 0);
        due("the size of -0 is 0", x.dial(1), 0);
    }

    private static void nowAndHurt() {
        about("now and hurt");
        EchoStudio x = played(8, "set 0=now", "wait 7", "set 1=now", "set 2=hurt");
        due("NOW 0", x.dial(0), 0);
        due("NOW 7", x.dial(1), bits(7.0));
        due("0 at first", x.dial(2), 0);
        x = studio(part("a", "try", "set 0=1/0", "on any", "set 0=hurt", "try", "drop 99", "on any", "set 1=hurt", "end", "set 2=hurt", "end", "do b", "wait 1"),
                part("b", "set 3=hurt"), part("c", "set 4=hurt"));
        x.play(0);
        x.play(2);
        x.run(1);
        due("ZERO", x.dial(0), bits(5.0));
        due("NONE", x.dial(1), bits(8.0));
        due("the latest stays", x.dial(2), bits(8.0));
        due("in a PART that is done", x.dial(3), bits(8.0));
        due("another PLAYER's", x.dial(4), 0);
    }

    private static void dueSum(String sum, double want) {
        EchoStudio x = played(1, "loop 1,3", "head 1,1,0", "put 1=5", "put 1=-7", "head 1,1,1", "set 2=4", "set 9=" + sum, "set 8=1");
        due(sum, x.dial(9), bits(want));
        due(sum + ": not refused", x.dial(8), bits(1.0));
    }

    private static void factorsWithinSums() {
        about("FACTORS within sums");
        dueSum("100-dial(2)*10-1", 59);
        dueSum("100-cell(1)*10-1", 169);
        dueSum("100-place(1)*10-1", 89);
        dueSum("100-length(1)*10-1", 69);
        dueSum("100-sum(1)*10-1", 119);
        dueSum("100-loud(1)*10-1", 29);
        dueSum("100-abs(-2)*10-1", 79);
        dueSum("100-whole(2.5)*10-1", 79);
        dueSum("100-least(2,3)*10-1", 79);
        dueSum("100-most(2,3)*10-1", 69);
        dueSum("100-(-2)*10-1", 119);
        dueSum("100--2*10-1", 119);
        dueSum("100-now*10-1", 99);
        dueSum("100-hurt*10-1", 99);
        dueSum("least(abs(-2),length(1))+most(whole(4.5),sum(1))*loud(1)", 30);
        dueSum("least(1+2*3,most(4,5)-1)-abs(least(-1,-2))", 2);
        dueSum("2-3-4", -5);
        dueSum("2-(3-4)", 3);
        dueSum("24/4/2", 3);
        dueSum("24/(4/2)", 12);
        dueSum("24/4*2", 12);
        dueSum("1+2*3-4/2", 5);
        dueSum("(1+2)*(3-4)/2", -1.5);
        dueSum("-2*3+-4*-5", 14);
        dueSum("-(1+2)*--3", -9);
        dueSum("dial(dial(2)-2)+dial(whole(2.9))", 8);
        dueSum("dial(length(1)-place(1))", 4);
        due("in each place of a LINE", played(1, "set 2=3", "head dial(2)+1,dial(2)-1,dial(2)*dial(2)").head(4, 1), 9);
        due("in each place of a LINE", played(1, "set 2=3", "head dial(2)+1,dial(2)-1,dial(2)*dial(2)").head(4, 0), 2);
        due("on both sides of a COND", played(1, "if abs(-2)+1<most(3,4)-0.5", "set 9=1", "end").dial(9), bits(1.0));
        due("on both sides of a COND", played(1, "if abs(-2)+2<most(3,4)-0.5", "set 9=1", "end").dial(9), 0);
    }
}
