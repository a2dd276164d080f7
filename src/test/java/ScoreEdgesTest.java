/** The edges of THE SCORE: its text, TOKENS, GRAMMAR and FAULTS. */
public final class ScoreEdgesTest extends Probe {
    public static void main(String[] args) {
        anEmptyText();
        aTextOfFourThousandBytes();
        aTextWithoutAByteTenAtItsEnd();
        everyByte();
        everyByteBehindASemicolon();
        blanksAndLinesWithoutTokens();
        tokensAreTheLongestThatCanBe();
        namesOfEightAndNineLetters();
        digitsAheadOfThePoint();
        digitsBehindThePoint();
        aPointWithoutADigitBehind();
        thePlaceOfFaultOne();
        faultTwoAtEachToken();
        faultTwoAtAnEol();
        faultTwoAtTheEndOfTheText();
        faultTwoInBlocks();
        wordsOnlyWhereTheyStand();
        namesOfPartsMayBeAny();
        faultThree();
        theTwentiethOpen();
        theTwentyFirstOpen();
        whatIsClosedIsOpenNoMore();
        faultFive();
        faultSixOfTokens();
        faultSixOfParts();
        faultSixOfLines();
        fiveAheadOfSix();
        ofTwoAtOneTokenTheLeast();
        theFirstAsTokensCome();
        lineZeroOfFiveAndSix();
        withAFaultNothingChanges();
        withoutAFault();
        theTapeIsUsedUp();
        aTextBehindAFaultyOne();
        scoresBehindOneAnother();
        theLargestScoresArePlayed();
        textsFarBeyondTheLimits();
        finish();
    }

    private static final String END = "end\n";

    private static int at(int line, int kind) {
        return 16 * line + kind;
    }

    /** The fault of one LINE in a PART: it is line 1 of the text. */
    private static int ofLine(String line) {
        return fault("part a\n" + line + "\n" + END);
    }

    private static int ofSum(String sum) {
        return ofLine("set 0=" + sum);
    }

    private static void anEmptyText() {
        about("an empty text");
        due("of a new object", new EchoStudio().read(), at(0, 2));
        due("of no bytes", fault(""), at(0, 2));
        due("a blank", fault(" "), at(0, 2));
        due("a byte 10", fault("\n"), at(1, 2));
        due("bytes 10", fault("\n\n\n"), at(3, 2));
        due("a ; alone", fault(";"), at(0, 2));
        due("a ; and a byte 10", fault("; part a\n"), at(1, 2));
        EchoStudio x = new EchoStudio();
        feedText(x, part("a"));
        x.back(11);
        due("all taken back", x.read(), at(0, 2));
    }

    private static void aTextOfFourThousandBytes() {
        about("a text of 4,000 bytes");
        due("blanks at its end", fault(part("a") + repeated(" ", 3989)), 0);
        due("a ; to its end", fault(part("a") + repeated(";", 3989)), 0);
        due("blanks ahead", fault(repeated(" ", 3989) + part("a")), 0);
        due("without a byte 10 at its end", fault(repeated(" ", 3990) + "part a\nend"), 0);
        due("bytes 10", fault(repeated("\n", 4000)), at(4000, 2));
        due("a fault at its last byte", fault(repeated("\n", 3999) + "%"), at(3999, 1));
        due("a NAME at its last byte", fault(repeated("\n", 3999) + "x"), at(3999, 2));
        due("a NUMBER at its last byte", fault(repeated(" ", 3999) + "7"), at(0, 2));
        due("a point at its last byte", fault(part("a").substring(0, 7) + repeated(" ", 3985) + "set 0=1."), at(1, 1));
        due("nine letters to its last byte", fault(repeated(" ", 3991) + "partparts"), at(0, 1));
        due("signs alone", fault(repeated("(", 4000)), at(0, 2));
        due("one NAME of 4,000 letters", fault(repeated("a", 4000)), at(0, 1));
        due("one NUMBER of 4,000 digits", fault(repeated("1", 4000)), at(0, 1));
    }

    private static void aTextWithoutAByteTenAtItsEnd() {
        about("a text without a byte 10 at its end");
        due("end", fault("part a\nend"), 0);
        due("end and a blank", fault("part a\nend "), 0);
        due("end and a ;", fault("part a\nend;"), 0);
        due("a line without TOKENS", fault("part a\nend\n ;"), 0);
        due("the part's own end is missing", fault("part a\nif 0<1\nend"), at(2, 2));
        due("part", fault("part"), at(0, 2));
        due("part a", fault("part a"), at(0, 2));
        due("within a LINE", fault("part a\nset 0="), at(1, 2));
        due("behind a NUMBER's point and a digit", fault("part a\nset 0=1.5"), at(1, 2));
        due("behind a NUMBER's point and four", fault("part a\nset 0=1.5678"), at(1, 2));
        due("behind a LINE", fault("part a\nset 0=1"), at(1, 2));
        due("behind a LINE and a byte 10", fault("part a\nset 0=1\n"), at(2, 2));
        EchoStudio x = studio("part a\nset 0=1\nend");
        due("it is played", x.play(0), 1);
        x.run(1);
        due("it is played", x.dial(0), bits(1.0));
        due("a LINE", x.count(3), 1);
    }

    private static void everyByte() {
        about("every byte, alone on a line");
        for (int b = 0; b < 256; b++) {
            char c = (char) b;
            boolean nothing = c == ' ' || c == ';' || c == '\n';
            boolean token = c >= 'a' && c <= 'z' || c >= '0' && c <= '9' || "+-*/(),=<>".indexOf(c) >= 0;
            due("byte " + b, fault("part a\n" + c + "\nend\n"), nothing ? 0 : token ? at(1, 2) : at(1, 1));
        }
    }

    private static void everyByteBehindASemicolon() {
        about("every byte behind a ;");
        StringBuilder all = new StringBuilder("part a ;");
        for (int b = 0; b < 256; b++) {
            all.append(b == 10 ? ' ' : (char) b);
        }
        due("all but 10", fault(all + "\nend\n"), 0);
        due("till a byte 10 alone", fault("part a ; \r set \u0000 \n%"), at(1, 1));
    }

    private static void blanksAndLinesWithoutTokens() {
        about("blanks, and lines without TOKENS");
        due("ahead, between, behind", fault("  part   a  \n   set   0   =   1   \n   end   \n"), 0);
        due("none, where TOKENS end by themselves", fault("part a\nset 0=(1)*2/-3\nloop0,4\nend\n"), 0);
        due("lines between", fault("\n\npart a\n\n  \n;\nset 0=1\n ; x\n\nend\n\n\n"), 0);
        due("they count as lines of a fault", fault("\n;\n  \npart a\n\n%\n"), at(5, 1));
        due("a ; behind TOKENS", fault("part a;b\nset 0=1;+\nend;end\n"), 0);
        due("a ; between TOKENS ends the line", fault("part a\nset 0;=1\nend\n"), at(1, 2));
        due("a byte 10 between TOKENS", fault("part a\nset 0\n=1\nend\n"), at(1, 2));
        due("a byte 13", fault("part a\r\nend\r\n"), at(0, 1));
        due("a byte 9", fault("part\ta\nend\n"), at(0, 1));
        due("a byte 0", fault("part a\nend\n\u0000"), at(2, 1));
    }

    private static void tokensAreTheLongestThatCanBe() {
        about("TOKENS, the longest that can be");
        due("parta is one", fault("parta\nend\n"), at(0, 2));
        due("a NUMBER right behind a NAME", ofLine("wait1"), 0);
        due("a NAME right behind a NUMBER", ofLine("wait 1a"), at(1, 2));
        due("end behind a NUMBER", fault("part a\nwait 1end\n"), at(1, 2));
        due("two NUMBERS", ofLine("wait 1 2"), at(1, 2));
        due("two signs", ofSum("1--1"), 0);
        due("1.5.5: a NUMBER, and no TOKEN", ofSum("1.5.5"), at(1, 1));
    }

    private static void namesOfEightAndNineLetters() {
        about("NAMES of 8 and of 9 letters");
        due("8", fault(part("abcdefgh", "do abcdefgh")), 0);
        due("8 z", fault(part("zzzzzzzz")), 0);
        due("9", fault(part("abcdefghi")), at(0, 1));
        due("9 behind do", ofLine("do abcdefghi"), at(1, 1));
        due("9 that begin as a word", ofLine("loopsloop 0,1"), at(1, 1));
        due("8 that differ in the last", fault(part("abcdefgh") + part("abcdefgi")), 0);
        due("8 that are told twice", fault(part("abcdefgh") + part("abcdefgh")), at(2, 3));
        due("1", fault(part("z", "do z")), 0);
        due("one is the other's beginning", fault(part("a") + part("aa") + part("aaa")), 0);
        due("a word and a letter", ofLine("stopx"), at(1, 2));
        due("a word without its last letter", ofLine("sto"), at(1, 2));
        due("digits are no letters", fault("part a1\nend\n"), at(0, 2));
        due("great letters are none", fault("part aB\nend\n"), at(0, 1));
    }

    private static void digitsAheadOfThePoint() {
        about("NUMBERS of 6 and 7 digits ahead of the point");
        due("6", ofSum("999999"), 0);
        due("7", ofSum("1000000"), at(1, 1));
        due("7 with zeros", ofSum("0000001"), at(1, 1));
        due("6 zeros", ofSum("000000"), 0);
        due("6 and 4", ofSum("999999.9999"), 0);
        due("7 and 4", ofSum("9999999.9999"), at(1, 1));
        due("7 and a point", ofSum("1234567."), at(1, 1));
        due("7 and 5", ofSum("1234567.12345"), at(1, 1));
        EchoStudio x = played(1, "set 0=999999", "set 1=000000.0001", "set 2=012345");
        due("its value", x.dial(0), bits(999999.0));
        due("its value", x.dial(1), bits(0.0001));
        due("its value", x.dial(2), bits(12345.0));
    }

    private static void digitsBehindThePoint() {
        about("NUMBERS of 4 and 5 digits behind the point");
        due("1", ofSum("0.1"), 0);
        due("4", ofSum("0.1234"), 0);
        due("5", ofSum("0.12345"), at(1, 1));
        due("5 zeros", ofSum("1.00000"), at(1, 1));
        due("6 and 5", ofSum("123456.12345"), at(1, 1));
        EchoStudio x = played(1, "set 0=0.1234", "set 1=1.0000", "set 2=1.5", "set 3=1.05");
        due("its value", x.dial(0), bits(0.1234));
        due("its value", x.dial(1), bits(1.0));
        due("its value", x.dial(2), bits(1.5));
        due("its value", x.dial(3), bits(1.05));
    }

    private static void aPointWithoutADigitBehind() {
        about("12. without a digit behind");
        due("and an EOL", ofSum("12."), at(1, 1));
        due("and a blank", ofSum("12. 5"), at(1, 1));
        due("and a letter", ofSum("12.a"), at(1, 1));
        due("and a sign", ofSum("12.+1"), at(1, 1));
        due("and a point", ofSum("12..5"), at(1, 1));
        due("and the text's end", fault("part a\nset 0=12."), at(1, 1));
        due("where the NUMBER can't stand", ofLine("12."), at(1, 2));
        due("where the NUMBER can't stand", ofLine("set 0=1 12."), at(1, 2));
        due("a point alone", ofSum("."), at(1, 1));
        due("a point and digits", ofSum(".5"), at(1, 1));
        due("a blank ahead of the point", ofSum("1 .5"), at(1, 1));
    }

    private static void thePlaceOfFaultOne() {
        about("fault 1 is told at the first byte");
        due("a NAME", fault("\n\nabcdefghij\n"), at(2, 1));
        due("a NUMBER, where it could not stand either", fault("\n\n12345678\n"), at(2, 1));
        due("the fault ahead of it comes first", fault("part a\nset set abcdefghi\n"), at(1, 2));
        due("the line of the byte", fault("part a\nset 0=1\n\n\n  @\n"), at(4, 1));
    }

    private static void faultTwoAtEachToken() {
        about("fault 2: it can't stand there");
        String[] wrong = {"loop", "loop 0", "loop 0,", "loop 0,1,", "loop 0,1,2", "loop ,1", "drum 0", "drum 0,1,2", "drop", "drop 0,1", "head 0,1",
            "head 0,1,2,3", "set 0", "set 0,1", "set 0=", "set 0==1", "set 0=1,2", "set =1", "put 0,1", "put 0", "put 0=1=2", "glide 0,1",
            "glide 0=1,2", "glide 0,1,2,3", "plug 0,1,2,3,4,5,6", "plug 0,1,2,3,4,5,6,7,8", "plug", "pull", "pull 0,1", "burst 0,1,2,3,4",
            "burst 0,1,2,3,4,5,6", "copy 0", "copy 0,1,2", "turn", "turn 0,1", "scene", "scene 0,0", "recall", "recall 0,0", "wait", "wait 0,1",
            "do", "do 1", "do a b", "do a,a", "do (a)", "start", "start 1", "start a a", "stop 1", "stop stop", "if", "if 1", "if 1<", "if <1",
            "if 1<1<1", "if 1<>1", "if 1=<1", "if (1<1)", "if 1,1", "while", "while 1", "while 1+", "while 1=1=1", "try 1", "try try", "on",
            "on any", "else", "part", "part b", "now", "hurt", "dial(0)", "loop(0,1)", "0", "(", ")", ",", "=", "<", ">", "+", "-", "*", "/"};
        for (String line : wrong) {
            due(line, ofLine(line), at(1, 2));
        }
        String[] wrongSums = {"", "+1", "*1", "/1", "1+", "1-", "1*", "1/", "1+*1", "1**1", "1//1", "1+-", "()", "(1", "1)", "(1,1)", "(1))", "((1)",
            "dial", "dial 0", "dial()", "dial(0", "dial(0,1)", "dial 0)", "cell(", "place()", "length", "sum(0,0)", "loud(0,0)", "abs()", "abs(1,1)",
            "whole(1,1)", "least(1)", "least(1,1,1)", "least()", "least 1,1", "most(1)", "most(1,)", "most(,1)", "now()", "now 1", "hurt(1)",
            "hurt hurt", "1 1", "1(1)", "(1)(1)", "1<1", "a", "loop", "missing", "any", "part", "end", "--", "-", "-+1", "-*1", "1=1", "pi"};
        for (String sum : wrongSums) {
            due("set 0=" + sum, ofSum(sum), at(1, 2));
        }
        String[] right = {"1", "-1", "- 1", "--1", "1--1", "1*-1", "1/-1", "(1)", "-(1)", "-(-(1))", "now", "-now", "hurt*now", "dial(dial(0))",
            "cell(place(length(sum(loud(0)))))", "abs(whole(-1.5))", "least(1,most(2,3))", "least((1),(2))", "1+2*3-4/5", "((((1))))"};
        for (String sum : right) {
            due("set 0=" + sum, ofSum(sum), 0);
        }
    }

    private static void faultTwoAtAnEol() {
        about("fault 2 at an EOL: its own line");
        due("part", fault("\npart\na\nend\n"), at(1, 2));
        due("set 0=", fault("part a\n\nset 0= ; x\n1\nend\n"), at(2, 2));
        due("do", fault("part a\ndo\na\nend\n"), at(1, 2));
        due("if", fault("part a\nif 0\n<1\nend\nend\n"), at(1, 2));
        due("on", fault("part a\ntry\non\nany\nend\nend\n"), at(2, 2));
        due("an EOL that is missing", fault("part a set 0=1\nend\n"), at(0, 2));
        due("behind end", fault("part a\nend part b\nend\n"), at(1, 2));
        due("behind try", fault("part a\ntry set 0=1\nend\nend\n"), at(1, 2));
        due("behind else", fault("part a\nif 0<1\nelse set 0=1\nend\nend\n"), at(2, 2));
        due("behind on any", fault("part a\ntry\non any set 0=1\nend\nend\n"), at(2, 2));
        due("behind a COND", fault("part a\nif 0<1 set 0=1\nend\nend\n"), at(1, 2));
    }

    private static void faultTwoAtTheEndOfTheText() {
        about("fault 2 at the end of the text: the line behind the last byte");
        due("no end of a PART", fault("part a\n"), at(1, 2));
        due("no end of a PART, blanks", fault("part a\n  "), at(1, 2));
        due("no end of a PART, lines", fault("part a\n\n\n"), at(3, 2));
        due("no end of a PART, a ;", fault("part a\n; end"), at(1, 2));
        due("no end of an if", fault("part a\nif 0<1\nend\n"), at(3, 2));
        due("no end of an else", fault("part a\nif 0<1\nelse\nend\n"), at(4, 2));
        due("no end of a while", fault("part a\nwhile 0<1\nend\n"), at(3, 2));
        due("no end of a try", fault("part a\ntry\non any\nend\n"), at(4, 2));
        due("no end of the second PART", fault(part("a") + "part b\nset 0=1\n"), at(4, 2));
        due("between PARTS it may stand", fault(part("a") + "\n\n"), 0);
    }

    private static void faultTwoInBlocks() {
        about("fault 2 in blocks");
        due("end too much", fault(part("a") + END), at(2, 2));
        due("else in a PART", fault("part a\nelse\nend\n"), at(1, 2));
        due("else in a while", fault("part a\nwhile 0<1\nelse\nend\nend\n"), at(2, 2));
        due("else in a try", fault("part a\ntry\nelse\nend\nend\n"), at(2, 2));
        due("else in an on", fault("part a\ntry\non any\nelse\nend\nend\n"), at(3, 2));
        due("a second else", fault("part a\nif 0<1\nelse\nelse\nend\nend\n"), at(3, 2));
        due("else of an if within is closed", fault("part a\nif 0<1\nif 0<1\nend\nelse\nend\nend\n"), 0);
        due("on in a PART", fault("part a\non any\nend\n"), at(1, 2));
        due("on in an if", fault("part a\nif 0<1\non any\nend\nend\n"), at(2, 2));
        due("on in a while", fault("part a\nwhile 0<1\non any\nend\nend\n"), at(2, 2));
        due("on in an if in a try", fault("part a\ntry\nif 0<1\non any\nend\nend\nend\n"), at(3, 2));
        due("on of a try in an on", fault("part a\ntry\non any\ntry\non any\nend\non off\nend\nend\n"), 0);
        due("ons behind one another", fault("part a\ntry\non any\non any\non off\nend\nend\n"), 0);
        due("on of each word", fault("part a\ntry\non missing\non off\non size\non room\non zero\non full\non deep\non none\non any\nend\nend\n"), 0);
        due("on of another word", fault("part a\ntry\non worn\nend\nend\n"), at(2, 2));
        due("on of a number", fault("part a\ntry\non 1\nend\nend\n"), at(2, 2));
        due("part in a block", fault("part a\ntry\npart b\nend\nend\nend\n"), at(2, 2));
        due("a LINE outside", fault("set 0=1\n" + part("a")), at(0, 2));
        due("a LINE between", fault(part("a") + "set 0=1\n" + part("b")), at(2, 2));
        due("empty blocks", fault("part a\nif 0<1\nend\nif 0<1\nelse\nend\nwhile 0<1\nend\ntry\nend\ntry\non any\nend\nend\n"), 0);
    }

    private static void wordsOnlyWhereTheyStand() {
        about("words are NAMES that are told so");
        due("on behind do: no PART of that NAME", ofLine("do on"), at(0, 5));
        due("any is no LINE", ofLine("any"), at(1, 2));
        due("loud is no LINE", ofLine("loud(0)"), at(1, 2));
        due("drum is no FACTOR", ofSum("drum(0)"), at(1, 2));
    }

    private static void namesOfPartsMayBeAny() {
        about("the NAME of a PART may be any");
        String[] words = {"part", "end", "loop", "if", "else", "on", "any", "now", "dial", "do", "start", "missing", "try"};
        for (String word : words) {
            EchoStudio x = studio(part(word, "set 0=dial(0)+1"), part("main", "do " + word, "start " + word));
            x.play(1);
            x.run(2);
            due(word, x.dial(0), bits(2.0));
        }
    }

    private static void faultThree() {
        about("fault 3: a PART's NAME that a PART ahead has");
        due("the second", fault(part("a") + part("a")), at(2, 3));
        due("the thirtieth", fault(thirtyParts(29) + part("a")), at(58, 3));
        due("it is told at the NAME", fault(part("a") + "part a %\n"), at(2, 3));
        due("it is told ahead of what comes", fault(part("a") + "part a"), at(2, 3));
        due("do of itself is none", fault(part("a", "do a")), 0);
        due("part without a NAME is 2", fault(part("a") + "part 1\n"), at(2, 2));
    }

    private static String blocks(String word, int times, String within) {
        return "part a\n" + repeated(word + "\n", times) + within + repeated(END, times) + END;
    }

    private static String nested(String open, int times, String close) {
        return repeated(open, times) + "1" + repeated(close, times);
    }

    private static void theTwentiethOpen() {
        about("the 20th open");
        due("if", fault(blocks("if 0<1", 20, "")), 0);
        due("while", fault(blocks("while 0<1", 20, "")), 0);
        due("try", fault(blocks("try", 20, "")), 0);
        due("(", ofSum(nested("(", 20, ")")), 0);
        due("-", ofSum(nested("-", 20, "")), 0);
        due("( of a word", ofSum(nested("abs(", 20, ")")), 0);
        due("( of least", ofSum(repeated("least(1,", 20) + "1" + repeated(")", 20)), 0);
        due("10 blocks, 5 ( and 5 -", fault(blocks("if 0<1", 10, "set 0=" + nested("-(", 5, ")") + "\n")), 0);
        due("19 blocks and a ( in a LINE", fault(blocks("try", 19, "set 0=(1)\n")), 0);
        due("20 blocks and a LINE without any", fault(blocks("try", 20, "set 0=1\n")), 0);
        due("the 20th block with a COND without any", fault(blocks("if 0<1", 19, "while 1=1\nend\n")), 0);
    }

    private static void theTwentyFirstOpen() {
        about("fault 4: the 21st open");
        due("if", fault(blocks("if 0<1", 21, "")), at(21, 4));
        due("while", fault(blocks("while 0<1", 21, "")), at(21, 4));
        due("try", fault(blocks("try", 21, "")), at(21, 4));
        due("(", ofSum(nested("(", 21, ")")), at(1, 4));
        due("-", ofSum(nested("-", 21, "")), at(1, 4));
        due("( of a word", ofSum(nested("abs(", 21, ")")), at(1, 4));
        due("( of most", ofSum(repeated("most(1,", 21) + "1" + repeated(")", 21)), at(1, 4));
        due("a - within 20 (", ofSum(repeated("(", 20) + "-1" + repeated(")", 20)), at(1, 4));
        due("a ( behind 20 -", ofSum(repeated("-", 20) + "(1)"), at(1, 4));
        due("a - of the second E", ofLine("loop 0," + nested("-", 21, "")), at(1, 4));
        due("a ( within 20 blocks", fault(blocks("try", 20, "\nset 0=(1)\n")), at(22, 4));
        due("a - within 20 blocks", fault(blocks("try", 20, "set 0=-1\n")), at(21, 4));
        due("a ( in the COND of the 20th block", fault(blocks("if 0<1", 19, "if 0<(1)\nend\n")), at(20, 4));
        due("a - in the COND of the 20th block", fault(blocks("if 0<1", 19, "while -1<1\nend\n")), at(20, 4));
        due("an on keeps its try open", fault("part a\n" + repeated("try\non any\n", 21)), at(41, 4));
        due("an else keeps its if open", fault("part a\n" + repeated("if 0<1\nelse\n", 21)), at(41, 4));
        due("it is told ahead of what comes", fault("part a\n" + repeated("try\n", 20) + "if %\n"), at(21, 4));
    }

    private static void whatIsClosedIsOpenNoMore() {
        about("what is closed is open no more");
        due("blocks", fault("part a\n" + repeated("try\nend\n", 60) + END), 0);
        due("blocks with ons", fault("part a\n" + repeated("try\non any\nend\n", 60) + END), 0);
        due("(", ofSum(repeated("(1)+", 60) + "1"), 0);
        due("-", ofSum(repeated("-1*", 60) + "1"), 0);
        due("- of (", ofSum(repeated("-(1)-", 60) + "1"), 0);
        due("- ends with its FACTOR", ofSum(nested("-", 20, "") + "*" + nested("-", 20, "")), 0);
        due("( in each E", ofLine("loop " + nested("(", 20, ")") + "," + nested("(", 20, ")")), 0);
        due("of one LINE, then of the next", fault("part a\n" + repeated("set 0=" + nested("(", 20, ")") + "\n", 9) + END), 0);
        due("of one PART, then of the next", fault(part("a", repeated("try\n", 20) + repeated(END, 19) + "end")
                + part("b", repeated("try\n", 20) + repeated(END, 19) + "end")), 0);
    }

    private static void faultFive() {
        about("fault 5: a NAME behind do, start that no PART has");
        due("do", ofLine("do b"), 5);
        due("start", ofLine("start b"), 5);
        due("of a PART behind", fault(part("a", "do b", "start b") + part("b")), 0);
        due("of a PART ahead", fault(part("b") + part("a", "do b", "start b")), 0);
        due("of the PART itself", ofLine("do a"), 0);
        due("one of several", fault(part("a", "do a", "do b", "do a") + part("c", "start a")), 5);
        due("the last one", fault(part("a", "do a") + part("b", "start c")), 5);
        due("within blocks", fault(part("a", "if 0<1", "do x", "end")), 5);
        due("behind all others", fault(part("a", "do b") + "part c\nset 0=\nend\n"), at(4, 2));
        due("the name's beginning", fault(part("ab", "do a")), 5);
    }

    /** A PART whose TOKENS are as many as told: with part, its NAME, end, set 0 = 1 and three EOLS they are ten. */
    private static String ofTokens(int tokens) {
        return part("a", "set 0=" + ((tokens - 10) % 2 == 1 ? "-" : "") + "1" + repeated("+1", (tokens - 10) / 2));
    }

    private static void faultSixOfTokens() {
        about("fault 6: more than 1,200 TOKENS");
        due("10", fault(ofTokens(10)), 0);
        due("1,199", fault(ofTokens(1199)), 0);
        due("1,200", fault(ofTokens(1200)), 0);
        due("1,201", fault(ofTokens(1201)), 6);
        due("1,202", fault(ofTokens(1202)), 6);
        due("3,000", fault(part("a", "set 0=1" + repeated("+1", 1495))), 6);
        due("1,200 without a byte 10 at the end", fault(ofTokens(1200).trim()), 0);
        due("1,201 without a byte 10 at the end", fault(ofTokens(1201).trim()), 6);
        due("1,200 and lines without TOKENS", fault(ofTokens(1200) + "\n\n ; x\n"), 0);
        // part a EOL, end EOL: 5; 199 times stop EOL: 398; set 0 = 1 EOL: 5, and 396 times + 1.
        due("1,200 with 200 LINES", fault(part("a", repeated("stop\n", 199) + "set 0=1" + repeated("+1", 396))), 0);
        due("1,201 with 200 LINES", fault(part("a", repeated("stop\n", 199) + "set 0=-1" + repeated("+1", 396))), 6);
        EchoStudio x = studio(ofTokens(1200));
        x.play(0);
        x.run(1);
        due("it is played", x.dial(0), bits(596.0));
    }

    private static String thirtyParts(int parts) {
        StringBuilder all = new StringBuilder();
        for (int i = 0; i < parts; i++) {
            all.append("part ").append((char) ('a' + i % 26)).append(i < 26 ? "" : "x").append("\n").append(END);
        }
        return all.toString();
    }

    private static void faultSixOfParts() {
        about("fault 6: more than 30 PARTS");
        due("1", fault(thirtyParts(1)), 0);
        due("29", fault(thirtyParts(29)), 0);
        due("30", fault(thirtyParts(30)), 0);
        due("31", fault(thirtyParts(31)), 6);
        due("52", fault(thirtyParts(52)), 6);
        EchoStudio x = studio(thirtyParts(30));
        due("count(1)", x.count(1), 30);
        due("play(29)", x.play(29), 1);
        due("play(30)", x.play(30), NONE);
        due("31 leave it", readText(x, thirtyParts(31)), 6);
        due("31 leave it", x.count(1), 30);
    }

    private static void faultSixOfLines() {
        about("fault 6: more than 200 LINES");
        due("200", fault(part("a", repeated("stop\n", 199) + "stop")), 0);
        due("201", fault(part("a", repeated("stop\n", 200) + "stop")), 6);
        due("200 in two PARTS", fault(part("a", repeated("stop\n", 99) + "stop") + part("b", repeated("stop\n", 99) + "stop")), 0);
        due("201 in two PARTS", fault(part("a", repeated("stop\n", 99) + "stop") + part("b", repeated("stop\n", 100) + "stop")), 6);
        due("400", fault(part("a", repeated("stop\n", 399) + "stop")), 6);
        String[] two = {"if 0<1\nelse\nend\n", "try\non any\nend\n"};
        for (String block : two) {
            due("100 of " + block, fault("part a\n" + repeated(block, 100) + END), 0);
            due("100 and one more LINE", fault("part a\n" + repeated(block, 100) + "stop\n" + END), 6);
        }
        due("200 tries", fault("part a\n" + repeated("try\nend\n", 200) + END), 0);
        due("201 tries", fault("part a\n" + repeated("try\nend\n", 201) + END), 6);
        due("150 whiles", fault("part a\n" + repeated("while 0<1\nend\n", 150) + END), 0);
        due("a try with 199 ons", fault("part a\ntry\n" + repeated("on any\n", 199) + "end\n" + END), 0);
        due("a try with 200 ons", fault("part a\ntry\n" + repeated("on any\n", 200) + "end\n" + END), 6);
    }

    private static void fiveAheadOfSix() {
        about("5 ahead of 6");
        due("LINES", fault(part("a", repeated("stop\n", 200) + "do b")), 5);
        due("PARTS", fault(thirtyParts(31) + part("main", "do nope")), 5);
        due("TOKENS", fault(part("a", "start b", "set 0=1" + repeated("+1", 1400))), 5);
        due("6 without a 5", fault(part("a", repeated("stop\n", 200) + "do a")), 6);
        due("a 2 ahead of both", fault(part("a", repeated("stop\n", 200) + "do b") + "end\n"), at(203, 2));
    }

    private static void ofTwoAtOneTokenTheLeast() {
        about("of two at one TOKEN the least");
        due("1 and 2: no TOKEN, and it could not stand", fault("@"), at(0, 1));
        due("1 and 2: nine letters", ofLine("abcdefghi"), at(1, 1));
        due("1 and 2: seven digits", ofLine("1234567"), at(1, 1));
        due("1 and 3: nine letters, as a PART ahead has", fault(part("abcdefgh") + part("abcdefghi")), at(2, 1));
        due("1 and 4: a sign that is none within 20 (", ofSum(repeated("(", 20) + "["), at(1, 1));
        due("2 and 4: a 21st ( that can't stand", ofSum(repeated("(", 20) + "1("), at(1, 2));
        due("2 and 4: a 21st if that can't stand", ofSum(repeated("(", 20) + "if"), at(1, 2));
        due("2 and 4: a 21st try that can't stand", fault("part a\n" + repeated("try\n", 20) + "set 0=try\n"), at(21, 2));
        due("4 alone: a 21st - that could stand", ofSum(repeated("(", 20) + "-"), at(1, 4));
        due("a - that is no FACTOR's opens nothing", ofSum(repeated("(", 20) + "1-1" + repeated(")", 20)), 0);
    }

    private static void theFirstAsTokensCome() {
        about("the first one as TOKENS come");
        due("2, then 1 on its line", ofLine("stop stop @"), at(1, 2));
        due("2, then 1 behind", fault("part a\nstop stop\n@\n"), at(1, 2));
        due("1, then 2", fault("part a\n@ stop stop\n"), at(1, 1));
        due("4, then 2", ofSum(repeated("(", 21) + ")"), at(1, 4));
        due("2, then 4", ofSum("*" + repeated("(", 21)), at(1, 2));
        due("3, then 4", fault(part("b") + "part b\n" + repeated("try\n", 21)), at(2, 3));
        due("4, then 3", fault(part("b", repeated("try\n", 21) + "stop") + part("b")), at(21, 4));
        due("1 in a line behind a 5", fault(part("a", "do b") + "@"), at(3, 1));
    }

    private static void lineZeroOfFiveAndSix() {
        about("5 and 6 have line 0");
        due("5", fault("\n\n\n" + part("a", "stop", "do b") + "\n\n"), 5);
        due("6", fault("\n\n\n" + part("a", repeated("stop\n", 200) + "stop") + "\n\n"), 6);
    }

    private static void withAFaultNothingChanges() {
        about("with a fault nothing changes");
        String[] faulty = {"@", "part", part("a") + part("a"), blocks("try", 21, ""), part("a", "do b"), thirtyParts(31)};
        for (int i = 0; i < faulty.length; i++) {
            EchoStudio x = studio(part("one", "set 1=1", "loop 2,3", "head 3,2,1", "plug 4,3,3,0,0,1,1,0", "glide 5,9,9", "do two", "set 1=3"),
                    part("two", "wait 2", "set 1=dial(1)+1"));
            x.play(0);
            x.run(1);
            due("a fault", readText(x, faulty[i]) % 16, i + 1);
            due("PARTS", x.count(1), 2);
            due("PLAYERS", x.count(2), 1);
            due("its PART", x.player(0, 0), 1);
            due("its wait", x.player(0, 2), 2);
            due("its LINES", x.player(0, 3), 7);
            due("DIALS", x.dial(1), bits(1.0));
            due("LOOPS", x.loop(2, 1), 3);
            due("HEADS", x.head(3, 1), 2);
            due("SLOTS", x.slot(4, 0), 3);
            due("GLIDES", x.count(12), 1);
            due("NOW", x.count(0), 1);
            x.run(2);
            due("the SCORE is the one it was", x.dial(1), bits(3.0));
            due("its end", x.count(2), 0);
            due("LINES in all", x.count(3), 9);
            due("play", x.play(1), 1);
        }
    }

    private static void withoutAFault() {
        about("else it is the SCORE; all PLAYERS are gone");
        EchoStudio x = studio(part("one", "set 1=1", "loop 2,3", "head 3,2,1", "plug 4,3,3,0,0,1,1,0", "glide 5,9,9", "scene 1", "wait 5", "set 1=2"));
        x.play(0);
        x.play(0);
        x.run(1);
        due("two", x.count(2), 2);
        due("read", readText(x, part("x", "recall 1") + part("y")), 0);
        due("none", x.count(2), 0);
        due("player(0, 0)", x.player(0, 0), NONE);
        due("none FELL", x.count(8), 0);
        due("PARTS", x.count(1), 2);
        due("LINES stay counted", x.count(3), 14);
        x.run(9);
        due("none of theirs is done", x.dial(1), bits(1.0));
        due("the LOOP stays", x.loop(2, 1), 3);
        due("the SLOT acts on", x.head(3, 1), 11);
        due("the DIAL GLIDES to its end", x.dial(5), bits(9.0));
        due("play", x.play(0), 1);
        x.run(1);
        due("a scene stays kept", x.count(6), 0);
        due("what was kept, and an ACT", x.head(3, 1), 2);
        due("the same text again", readText(x, part("x", "recall 1") + part("y")), 0);
    }

    private static void theTapeIsUsedUp() {
        about("read() uses the tape up");
        EchoStudio x = new EchoStudio();
        feedText(x, part("a"));
        due("read", x.read(), 0);
        due("nothing is on it", x.back(0), 0);
        due("nothing can go", x.back(1), NONE);
        due("read again", x.read(), 2);
        due("the SCORE stays", x.count(1), 1);
        feedText(x, "@");
        due("a fault", x.read(), 1);
        due("nothing is on it", x.back(0), 0);
        due("the next text is fed from its beginning", readText(x, part("b") + part("c")), 0);
        due("PARTS", x.count(1), 2);
    }

    private static void aTextBehindAFaultyOne() {
        about("a text behind a faulty one");
        String[] faulty = {"part a\n" + repeated("try\n", 20), "part a\n" + repeated("if 0<1\nelse\n", 20) + "stop stop\n", "part a\nset 0=" + repeated("(", 20),
            "part a\nset 0=" + repeated("-", 20) + "*", "part a\nset 0=" + repeated("abs(", 21), "part a\nwhile 0<1\n@", part("a", repeated("stop\n", 200) + "stop"),
            part("a") + "part a\n", part("a", "do b"), "part a\ntry\non any\n"};
        for (String one : faulty) {
            EchoStudio x = new EchoStudio();
            due("a fault", readText(x, one) == 0 ? 1 : 0, 0);
            due("the plainest one", readText(x, part("a")), 0);
            due("a fault", readText(x, one) == 0 ? 1 : 0, 0);
            due("20 blocks", readText(x, blocks("try", 20, "")), 0);
            due("a fault", readText(x, one) == 0 ? 1 : 0, 0);
            due("20 (", readText(x, part("a", "set 0=" + nested("(", 20, ")"))), 0);
            due("PARTS", x.count(1), 1);
        }
    }

    private static void scoresBehindOneAnother() {
        about("SCORES behind one another");
        EchoStudio x = new EchoStudio();
        for (int i = 1; i <= 5; i++) {
            due("150 LINES", readText(x, part("a", repeated("stop\n", 149) + "stop")), 0);
            due("20 PARTS", readText(x, thirtyParts(20)), 0);
        }
        x = new EchoStudio();
        for (int i = 1; i <= 5; i++) {
            due("77 whiles", readText(x, part("a", "set " + i + "=" + i + "\n" + repeated("while 0>1\nend\n", 77) + "set 0=" + i)), 0);
            x.play(0);
            x.run(2);
            due("its first LINE", x.dial(i), bits((double) i));
            due("its last LINE", x.dial(0), bits((double) i));
            due("it ended", x.count(2), 0);
            due("LINES", x.count(3), 79 * i);
        }
        x = new EchoStudio();
        for (int i = 1; i <= 4; i++) {
            due("900 TOKENS", readText(x, part("a", "set 0=" + i + repeated("+1", 445))), 0);
            x.play(0);
            x.run(1);
            due("its sum", x.dial(0), bits(445.0 + i));
        }
    }

    private static void theLargestScoresArePlayed() {
        about("the largest SCORES are played");
        EchoStudio x = studio(part("a", repeated("while 0>1\nend\n", 165) + "set 7=1"));
        x.play(0);
        x.run(5);
        due("165 whiles", x.dial(7), bits(1.0));
        due("LINES", x.count(3), 166);
        x = studio(part("a", repeated("try\ndrop 9\non any\nend\n", 66) + "set 7=1"));
        x.play(0);
        x.run(5);
        due("66 tries", x.dial(7), bits(1.0));
        due("LINES", x.count(3), 133);
        x = studio(part("a", repeated("try\ndrop 99\non off\non any\nend\n", 49) + "set 7=1"));
        x.play(0);
        x.run(5);
        due("49 tries, refused", x.dial(7), bits(1.0));
        due("taken", x.count(7), 49);
        StringBuilder parts = new StringBuilder();
        for (int i = 0; i < 30; i++) {
            String name = (char) ('a' + i % 26) + (i < 26 ? "" : "x");
            parts.append(part(name, "set 7=" + i, "if 0<1", "else", "set 6=1", "end", "stop"));
        }
        x = studio(parts.toString());
        for (int i = 29; i >= 0; i--) {
            x.play(i);
            x.run(1);
            due("PART " + i, x.dial(7), bits((double) i));
        }
        due("LINES", x.count(3), 90);
        due("no else", x.dial(6), 0);
    }

    private static void textsFarBeyondTheLimits() {
        about("texts far beyond the limits of fault 6");
        due("280 whiles", fault(part("a", repeated("while 0<1\nend\n", 279) + "while 0<1\nend")), 6);
        due("260 tries with ons", fault(part("a", repeated("try\non any\nend\n", 259) + "try\non any\nend")), 6);
        due("one try with 560 ons", fault(part("a", "try\n" + repeated("on any\n", 560) + "end")), 6);
        due("797 does", fault(part("a", repeated("do a\n", 796) + "do a")), 6);
        due("797 does, the last one of no PART", fault(part("a", repeated("do a\n", 796) + "do b")), 5);
        due("797 does, the first one of no PART", fault(part("a", "do b\n" + repeated("do a\n", 795) + "do a")), 5);
        StringBuilder parts = new StringBuilder();
        for (int i = 0; i < 300; i++) {
            parts.append("part ").append((char) ('a' + i / 26)).append((char) ('a' + i % 26)).append("\nend\n");
        }
        due("300 PARTS", fault(parts.toString()), 6);
        due("the 301st is told twice", fault(parts + part("aa")), at(600, 3));
        due("the 301st is told twice", fault(parts + part("ln")), at(600, 3));
        due("a do of the 300th", fault(parts + part("x", "do ln")), 6);
        due("a do of none", fault(parts + part("x", "do lo")), 5);
        due("a fault behind 1,900 TOKENS", fault(part("a", "set 0=1" + repeated("+1", 950)) + "@"), at(3, 1));
        due("a fault behind 300 LINES", fault(part("a", repeated("stop\n", 300) + "stop stop")), at(301, 2));
        due("20 open behind 200 LINES", fault(part("a", repeated("stop\n", 210) + repeated("try\n", 20) + repeated(END, 19) + "end")), 6);
        due("21 open behind 200 LINES", fault(part("a", repeated("stop\n", 210) + repeated("try\n", 21) + repeated(END, 20) + "end")), at(231, 4));
    }
}
