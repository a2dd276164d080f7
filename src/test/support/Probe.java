/** What the tests share: how an answer is asked for, and how a text comes to a studio. */
abstract class Probe {
    static final int NONE = EchoStudio.NONE;
    static final int LEAST = Integer.MIN_VALUE;
    static final int GREATEST = Integer.MAX_VALUE;
    static final double NAN = Double.NaN;
    static final double INF = Double.POSITIVE_INFINITY;

    private static int wrong = 0;
    private static int asked = 0;
    private static String heading = "";

    /** What the next answers are about: it is told with those that are wrong. */
    static void about(String newHeading) {
        heading = newHeading;
    }

    static void due(String what, long got, long want) {
        asked++;
        if (got != want) {
            wrong++;
            System.out.println(heading + ": " + what + " answered " + got + ", due is " + want);
        }
    }

    static void finish() {
        if (wrong > 0) {
            System.out.println(wrong + " of " + asked + " answers are wrong");
            System.exit(1);
        }
        System.out.println("all " + asked + " answers are as due");
    }

    static long bits(double d) {
        return Double.doubleToLongBits(d);
    }

    static long bits(float f) {
        return Float.floatToIntBits(f);
    }

    static String repeated(String s, int times) {
        StringBuilder all = new StringBuilder();
        for (int i = 0; i < times; i++) {
            all.append(s);
        }
        return all.toString();
    }

    static String lines(String... some) {
        return String.join("\n", some) + "\n";
    }

    /** A PART of this NAME with these LINES. */
    static String part(String name, String... some) {
        return "part " + name + "\n" + (some.length == 0 ? "" : lines(some)) + "end\n";
    }

    /** Feeds a text, as twenties of bytes, and takes back what is behind it. */
    static void feedText(EchoStudio x, String text) {
        int fed = 0;
        for (; fed < text.length(); fed += 20) {
            int[] five = new int[5];
            for (int i = 0; i < 20; i++) {
                int c = fed + i < text.length() ? text.charAt(fed + i) : ' ';
                five[i / 4] |= c << 24 - 8 * (i % 4);
            }
            x.feed(five[0], five[1], five[2], five[3], five[4]);
        }
        x.back(fed - text.length());
    }

    static int readText(EchoStudio x, String text) {
        feedText(x, text);
        return x.read();
    }

    static int fault(String text) {
        return readText(new EchoStudio(), text);
    }

    /** A studio with these PARTS as its SCORE. */
    static EchoStudio studio(String... parts) {
        EchoStudio x = new EchoStudio();
        String text = String.join("", parts);
        due("read() of " + text.replace('\n', '|'), readText(x, text), 0);
        return x;
    }

    /** A studio whose PART 0 has these LINES (behind a PART's end, others may begin), played for so many ticks. */
    static EchoStudio played(int ticks, String... some) {
        EchoStudio x = new EchoStudio();
        playMore(x, ticks, some);
        return x;
    }

    static void playMore(EchoStudio x, int ticks, String... some) {
        due("read() of " + String.join("|", some), readText(x, part("main", some)), 0);
        x.play(0);
        x.run(ticks);
    }

    /** The kind of the latest refusal when these LINES have been played for a tick; 0 for none. */
    static int refused(String... some) {
        return played(1, some).count(9);
    }
}
