/** The edges of NUMBERS: nearest SINGLES, THE WHOLE, and the BITS of what is no plain number. */
public final class NumbersEdgesTest extends Probe {
    /** DIAL 0 becomes 2 to the 128th. */
    private static final String TWO_TO_128 = lines("set 0=65536*65536", "set 0=dial(0)*dial(0)", "set 0=dial(0)*dial(0)");
    /** DIAL 1 becomes infinite, DIAL 2 a NaN. */
    private static final String BEYOND = TWO_TO_128
            + lines("set 1=dial(0)*dial(0)", "set 1=dial(1)*dial(1)", "set 1=dial(1)*dial(1)", "set 2=dial(1)-dial(1)");

    public static void main(String[] args) {
        ofTwoSinglesTheOneWhoseLastBitIsZero();
        theGreatestSingleAndBeyond();
        theLeastSingleAndBelow();
        aSingleComesToADoubleAsItIs();
        theWholeIsCutTowardsZero();
        theWholeOfNaNIsZero();
        theWholeBeyondAnInt();
        theBitsOfSingles();
        theBitsOfDoubles();
        allNaNsAreOne();
        eachOperationIsMadeByItself();
        theEndsOfDoubles();
        theNearestDoubleOfANumber();
        leastAndMost();
        conditionsWithNaNAndZeros();
        finish();
    }

    /** What a CELL of SINGLES becomes that an E is put into, behind these LINES. */
    private static long single(String ahead, String sum) {
        return played(1, ahead + "loop 0,1", "head 0,0,0", "put 0=" + sum).cell(0, 0);
    }

    private static long dialOf(String ahead, String sum) {
        return played(1, ahead + "set 9=" + sum).dial(9);
    }

    private static void ofTwoSinglesTheOneWhoseLastBitIsZero() {
        about("a DOUBLE to a SINGLE as the nearest one");
        String tie = "1/(4096*4096)";
        due("1 and half a last bit", single("", "1+" + tie), 1065353216);
        due("1 and one and a half", single("", "1+3*" + tie), 1065353218);
        due("1 and two and a half", single("", "1+5*" + tie), 1065353218);
        due("a little above half a last bit", single("", "1+" + tie + "+1/(4096*4096*4096*4096*4)"), 1065353217);
        due("a little below one and a half", single("", "1+3*" + tie + "-1/(4096*4096*4096*4096*4)"), 1065353217);
        due("below 0: half a last bit", single("", "-(1+" + tie + ")"), bits(-1f));
        due("below 0: one and a half", single("", "-(1+3*" + tie + ")"), bits(-1f - 0x1p-22f));
        due("a carry into the next power", single("", "2-" + tie), bits(2f));
        due("16,777,217", single("", "4096*4096+1"), bits(16777216f));
        due("16,777,219", single("", "4096*4096+3"), bits(16777220f));
    }

    private static void theGreatestSingleAndBeyond() {
        about("a DOUBLE to a SINGLE at its greatest");
        String tie = "dial(0)-dial(0)/(8192*4096)";
        due("the tie is infinite", single(TWO_TO_128, tie), 2139095040);
        due("a little below it", single(TWO_TO_128, tie + "-dial(0)/(4096*4096*4096*4096*32)"), 2139095039);
        due("the greatest", single(TWO_TO_128, "dial(0)-dial(0)/(4096*4096)"), 2139095039);
        due("2 to the 128th", single(TWO_TO_128, "dial(0)"), 2139095040);
        due("below 0, the tie", single(TWO_TO_128, "-(" + tie + ")"), -8388608);
        due("below 0, the greatest", single(TWO_TO_128, "-(dial(0)-dial(0)/(4096*4096))"), bits(-Float.MAX_VALUE));
    }

    private static void theLeastSingleAndBelow() {
        about("a DOUBLE to a SINGLE at its least");
        String half = "1/(dial(0)*2048*2048)";
        due("half of the least", single(TWO_TO_128, half), 0);
        due("a little above it", single(TWO_TO_128, half + "*1.0001"), 1);
        due("the least", single(TWO_TO_128, half + "*2"), 1);
        due("one and a half", single(TWO_TO_128, half + "*3"), 2);
        due("two and a half", single(TWO_TO_128, half + "*5"), 2);
        due("half of the least, below 0", single(TWO_TO_128, "-" + half), bits(-0f));
        due("the least full one and half a last bit less", single(TWO_TO_128, "4/dial(0)-" + half), 8388608);
        due("the least full one and a last bit less", single(TWO_TO_128, "4/dial(0)-2*" + half), 8388607);
        due("far below", single(TWO_TO_128, "1/dial(0)/dial(0)"), 0);
    }

    private static long turned(String ahead, String sum) {
        return played(1, ahead + "loop 0,1", "head 0,0,0", "put 0=" + sum, "turn 0").cell(0, 0);
    }

    private static void aSingleComesToADoubleAsItIs() {
        about("a SINGLE comes to a DOUBLE as it is");
        due("0.1", turned("", "0.1"), bits((double) 0.1f));
        due("-0", turned("", "-0"), bits(-0.0));
        due("0", turned("", "0"), 0);
        due("the least", turned(TWO_TO_128, "1/(dial(0)*1024*2048)"), bits(0x1p-149));
        due("a small one", turned(TWO_TO_128, "-5/(dial(0)*1024*2048)"), bits(-0x5p-149));
        due("the greatest small one", turned(TWO_TO_128, "4/dial(0)-1/(dial(0)*1024*2048)"), bits(0x1p-126 - 0x1p-149));
        due("the greatest", turned(TWO_TO_128, "dial(0)-dial(0)/(4096*4096)"), bits((double) Float.MAX_VALUE));
        due("the infinite", turned(BEYOND, "dial(1)"), bits(INF));
        due("the infinite below 0", turned(BEYOND, "-dial(1)"), bits(-INF));
        due("NaN", turned(BEYOND, "dial(2)"), 9221120237041090560L);
    }

    private static void theWholeIsCutTowardsZero() {
        about("THE WHOLE: cut towards 0");
        due("2.9999", dialOf("", "whole(2.9999)"), bits(2.0));
        due("-2.9999", dialOf("", "whole(-2.9999)"), bits(-2.0));
        due("0.9999", dialOf("", "whole(0.9999)"), 0);
        due("-0.9999", dialOf("", "whole(-0.9999)"), 0);
        due("-0", dialOf("", "whole(-0)"), 0);
        due("1", dialOf("", "whole(1)"), bits(1.0));
        due("-1", dialOf("", "whole(-1)"), bits(-1.0));
        due("the DOUBLE below 1", dialOf("", "whole(1-1/(4096*4096*4096*4096*32))"), 0);
        due("of a place", played(1, "head 0,0,-3.9999").head(0, 1), -3);
        due("of a number of a thing", played(1, "set 1.9999=4").dial(1), bits(4.0));
        due("of one below 0", played(1, "set -0.9999=4").dial(0), bits(4.0));
    }

    private static void theWholeOfNaNIsZero() {
        about("THE WHOLE: NaN 0");
        due("whole", dialOf(BEYOND, "whole(dial(2))"), 0);
        due("of a place", played(1, BEYOND + "head 0,3,7", "head 0,3,dial(2)").head(0, 1), 0);
        due("of a LOOP's number", played(1, BEYOND + "loop dial(2),3").loop(0, 1), 3);
        due("of a LENGTH", played(1, BEYOND + "loop 4,dial(2)").loop(4, 1), 0);
        due("of a wait: it goes on", played(1, BEYOND + "wait dial(2)", "set 9=1").dial(9), bits(1.0));
        due("of a glide: as set", played(1, BEYOND + "glide 9,3,dial(2)").dial(9), bits(3.0));
        due("of a burst: none", played(1, BEYOND + "burst 3,0,0,0,0,dial(2)").count(4), 0);
    }

    private static void theWholeBeyondAnInt() {
        about("THE WHOLE: beyond an int");
        String next = "65536*32768";
        due("the greatest int", dialOf("", "whole(" + next + "-1)"), bits(2147483647.0));
        due("and a half", dialOf("", "whole(" + next + "-0.5)"), bits(2147483647.0));
        due("one more", dialOf("", "whole(" + next + ")"), bits(2147483647.0));
        due("the least int", dialOf("", "whole(-" + next + ")"), bits(-2147483648.0));
        due("one above it", dialOf("", "whole(1-" + next + ")"), bits(-2147483647.0));
        due("half below it", dialOf("", "whole(-" + next + "-0.5)"), bits(-2147483648.0));
        due("one below it", dialOf("", "whole(-" + next + "-1)"), bits(-2147483648.0));
        due("the infinite", dialOf(BEYOND, "whole(dial(1))"), bits(2147483647.0));
        due("the infinite below 0", dialOf(BEYOND, "whole(-dial(1))"), bits(-2147483648.0));
        due("a place", played(1, BEYOND + "head 0,0,dial(1)").head(0, 1), GREATEST);
        due("a place", played(1, BEYOND + "head 0,0,-dial(1)").head(0, 1), LEAST);
        due("a length", refused(BEYOND + "loop 0,dial(1)"), 4);
        due("a length", refused(BEYOND + "loop 0,-dial(1)"), 3);
    }

    private static void theBitsOfSingles() {
        about("BITS of a SINGLE");
        due("0", single("", "0"), 0);
        due("-0", single("", "-0"), -2147483648L);
        due("1", single("", "1"), 1065353216);
        due("-1", single("", "-1"), -1082130432L);
        due("NaN", single(BEYOND, "dial(2)"), 2143289344);
        due("-NaN", single(BEYOND, "-dial(2)"), 2143289344);
        due("the infinite", single(BEYOND, "dial(1)"), 2139095040);
        due("the infinite below 0", single(BEYOND, "-dial(1)"), -8388608);
    }

    private static void theBitsOfDoubles() {
        about("BITS of a DOUBLE");
        due("0", dialOf("", "0"), 0);
        due("-0", dialOf("", "-0"), LEAST * 4294967296L);
        due("1", dialOf("", "1"), 4607182418800017408L);
        due("NaN", dialOf(BEYOND, "dial(2)"), 9221120237041090560L);
        due("the infinite", dialOf(BEYOND, "dial(1)"), 9218868437227405312L);
        due("the infinite below 0", dialOf(BEYOND, "-dial(1)"), -4503599627370496L);
        String put = BEYOND + "drum 3,4\nhead 0,3,0\nput 0=-0\nput 0=dial(2)\nput 0=dial(1)\nput 0=-dial(1)";
        EchoStudio x = played(1, put);
        due("a CELL of -0", x.cell(3, 0), LEAST * 4294967296L);
        due("a CELL of NaN", x.cell(3, 1), 9221120237041090560L);
        due("an infinite CELL", x.cell(3, 2), 9218868437227405312L);
        due("an infinite CELL below 0", x.cell(3, 3), -4503599627370496L);
    }

    private static void allNaNsAreOne() {
        about("all NaNs are one");
        String[] sums = {"dial(1)-dial(1)", "-dial(1)+dial(1)", "dial(1)*0", "-0*dial(1)", "dial(1)/dial(1)", "-(dial(1)/dial(1))", "dial(2)+1",
            "1-dial(2)", "dial(2)*0", "1/dial(2)", "dial(2)/2", "abs(dial(2))", "abs(-dial(2))", "-dial(2)", "--dial(2)", "least(dial(2),1)",
            "least(1,dial(2))", "most(dial(2),1)", "most(1,dial(2))", "least(dial(2),-dial(1))", "most(dial(1),dial(2))"};
        for (String sum : sums) {
            due(sum, dialOf(BEYOND, sum), 9221120237041090560L);
        }
        EchoStudio x = played(1, BEYOND + "loop 0,2", "head 0,0,0", "put 0=dial(1)", "put 0=-dial(1)", "head 0,0,0", "head 1,0,-1");
        due("STAMMER of the infinite", x.act(9, 1, 1, 1, 0), 2);
        due("it is refused at its SET", x.head(1, 1), -1);
        due("STAMMER of the infinite below 0", x.act(9, 0, 0, 0, 0), 0);
        due("its NaN", x.cell(0, 0), 2143289344);
        due("peak", x.peak(0), 9221120237041090560L);
        x = played(1, BEYOND + "loop 0,3", "head 0,0,0", "put 0=dial(1)", "put 0=-dial(1)", "put 0=dial(1)", "set 9=sum(0)");
        due("sum", x.dial(9), 9221120237041090560L);
    }

    private static void eachOperationIsMadeByItself() {
        about("each operation is made by itself");
        // What one rounding for both operations would answer otherwise: 1 - 0.1 * 10 is 0, not 2 to the -54th below it.
        due("a product, then a difference", dialOf("", "1-0.1*10"), 0);
        due("a difference of products", dialOf("", "0.1*0.1-0.1*0.1"), 0);
        EchoStudio x = played(1, "drum 0,1", "head 0,0,0", "put 0=-1", "head 0,0,0", "loop 1,1", "head 1,1,0", "put 1=10", "head 1,1,0", "set 0=0.1");
        due("MIX", x.act(2, 0, 1, 0, 0), 0);
        due("MIX", x.cell(0, 0), 0);
        x = played(1, "drum 0,3", "head 0,0,1", "put 0=-1", "put 0=10", "head 0,0,0", "head 1,0,1", "head 2,0,2", "set 0=0.1");
        due("ECHO", x.act(6, 0, 1, 2, 0), 0);
        due("ECHO", x.cell(0, 0), 0);
        due("from the left to the right", dialOf("", "0.1+0.2+0.3"), bits(0.1 + 0.2 + 0.3));
        due("as ( ) tell", dialOf("", "0.1+(0.2+0.3)"), bits(0.1 + (0.2 + 0.3)));
    }

    private static void theEndsOfDoubles() {
        about("DOUBLES at their ends");
        String two1023 = BEYOND + lines("set 3=dial(0)*dial(0)", "set 3=dial(3)*dial(3)", "set 4=dial(3)*(dial(3)/2)");
        due("2 to the 1,023rd", dialOf(two1023, "dial(4)"), bits(0x1p1023));
        due("twice that", dialOf(two1023, "dial(4)*2"), bits(INF));
        due("the greatest", dialOf(two1023, "dial(4)+(dial(4)-dial(4)/(4096*4096*4096*4096*16))"), bits(Double.MAX_VALUE));
        due("the tie to the infinite", dialOf(two1023, "dial(4)+(dial(4)-dial(4)/(4096*4096*4096*4096*32))"), bits(INF));
        due("the least full one", dialOf(two1023, "2/dial(4)"), bits(0x1p-1022));
        due("the least", dialOf(two1023, "2/dial(4)/(4096*4096*4096*4096*16)"), 1);
        due("half of the least", dialOf(two1023, "2/dial(4)/(4096*4096*4096*4096*32)"), 0);
        due("half of the least, below 0", dialOf(two1023, "-2/dial(4)/(4096*4096*4096*4096*32)"), bits(-0.0));
        due("half of the least is 0 ahead of what comes", dialOf(two1023, "2/dial(4)/(4096*4096*4096*4096*32)*3"), 0);
        due("one and a half of the least", dialOf(two1023, "2/dial(4)/(4096*4096*4096*4096*16)*1.5"), 2);
        due("two and a half of the least", dialOf(two1023, "2/dial(4)/(4096*4096*4096*4096*16)*2.5"), 2);
    }

    private static void theNearestDoubleOfANumber() {
        about("NUMBERS: the nearest DOUBLE");
        String[] some = {"0", "0.0", "0.0001", "0.1", "0.3333", "1", "9", "0.9999", "999999", "999999.9999", "123456.7890", "000000.0000", "000001",
            "900719.9254", "100000.0001", "65535.6553", "4.35"};
        for (String one : some) {
            due(one, dialOf("", one), bits(Double.parseDouble(one)));
        }
    }

    private static void leastAndMost() {
        about("least, most: -0 below 0");
        due("least(0,-0)", dialOf("", "least(0,-0)"), bits(-0.0));
        due("least(-0,0)", dialOf("", "least(-0,0)"), bits(-0.0));
        due("most(0,-0)", dialOf("", "most(0,-0)"), 0);
        due("most(-0,0)", dialOf("", "most(-0,0)"), 0);
        due("least(-0,-0)", dialOf("", "least(-0,-0)"), bits(-0.0));
        due("most(-0,-0)", dialOf("", "most(-0,-0)"), bits(-0.0));
        due("least of the infinite", dialOf(BEYOND, "least(dial(1),-dial(1))"), bits(-INF));
        due("most of the infinite", dialOf(BEYOND, "most(-dial(1),dial(1))"), bits(INF));
        due("least(-2,-1)", dialOf("", "least(-2,-1)"), bits(-2.0));
        due("most(-2,-1)", dialOf("", "most(-2,-1)"), bits(-1.0));
    }

    private static boolean holds(String condition) {
        return played(1, BEYOND + "if " + condition, "set 9=1", "end").dial(9) != 0;
    }

    private static void dueCondition(String condition, boolean want) {
        due(condition, holds(condition) ? 1 : 0, want ? 1 : 0);
    }

    private static void conditionsWithNaNAndZeros() {
        about("a COND");
        for (String sign : new String[] {"<", ">", "="}) {
            dueCondition("dial(2)" + sign + "dial(2)", false);
            dueCondition("dial(2)" + sign + "1", false);
            dueCondition("1" + sign + "dial(2)", false);
            dueCondition("dial(2)" + sign + "dial(1)", false);
            dueCondition("0" + sign + "-0", sign.equals("="));
            dueCondition("-0" + sign + "0", sign.equals("="));
            dueCondition("dial(1)" + sign + "dial(1)", sign.equals("="));
            dueCondition("dial(1)" + sign + "-dial(1)", sign.equals(">"));
            dueCondition("-1" + sign + "1", sign.equals("<"));
            dueCondition("-1" + sign + "-2", sign.equals(">"));
        }
        due("with a NaN a while ends", played(1, BEYOND + "while dial(2)=dial(2)", "set 9=9", "end", "set 8=1").dial(9), 0);
        due("with a NaN the else is gone into", played(1, BEYOND + "if dial(2)<1", "set 9=1", "else", "set 9=2", "end").dial(9), bits(2.0));
    }
}
