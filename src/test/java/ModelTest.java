import java.util.ArrayList;
import java.util.Arrays;
import java.util.HashMap;
import java.util.List;
import java.util.Map;
import java.util.Random;

/**
 * Random runs of calls, held against a second studio that is written another way: a score is a tree there,
 * numbers are the machine's own, refusals and faults are exceptions.
 */
public final class ModelTest {
    private static int wrong = 0;
    private static final StringBuilder log = new StringBuilder();

    public static void main(String[] args) {
        long from = args.length > 0 ? Long.parseLong(args[0]) : 1;
        long runs = args.length > 1 ? Long.parseLong(args[1]) : 3000;
        Tally tally = new Tally();
        for (long seed = from; seed < from + runs && wrong == 0; seed++) {
            new Run(seed, tally).go();
        }
        if (wrong > 0) {
            System.exit(1);
        }
        System.out.println("all runs are as the model's: " + tally);
    }

    /** What the runs came to, so that a generator that no longer reaches something is seen. */
    static final class Tally {
        final int[] refusals = new int[9];
        final int[] faults = new int[7];
        long worn, fell, taken, halted, wrongReads, reads, deep, nans;

        @Override
        public String toString() {
            return "refusals " + Arrays.toString(refusals) + ", faults " + Arrays.toString(faults) + ", reads " + reads
                    + ", worn " + worn + ", fell " + fell + ", taken " + taken + ", halted " + halted + ", nans " + nans;
        }
    }

    static final class Run {
        final long seed;
        final Random random;
        final EchoStudio studio = new EchoStudio();
        final Model model = new Model();
        final Tally tally;

        Run(long seed, Tally tally) {
            this.seed = seed;
            this.random = new Random(seed * 7919);
            this.tally = tally;
        }

        void go() {
            log.setLength(0);
            int rounds = 1 + random.nextInt(6);
            for (int i = 0; i < rounds && wrong == 0; i++) {
                score();
                int calls = random.nextInt(12);
                for (int k = 0; k < calls && wrong == 0; k++) {
                    call();
                    if (random.nextInt(3) == 0) {
                        look();
                    }
                }
                look();
            }
            for (int k = 1; k <= 8; k++) {
                tally.refusals[k] += model.kinds[k];
            }
            tally.worn += model.worn() ? 1 : 0;
            tally.fell += model.fell;
            tally.taken += model.taken;
            for (int n = 0; n < 12; n++) {
                tally.nans += model.peak(n) == 9221120237041090560L ? 1 : 0;
            }
        }

        void due(String what, long got, long want) {
            if (got != want) {
                wrong++;
                if (wrong < 10) {
                    System.out.println("seed " + seed + ": " + what + " answered " + got + ", the model " + want);
                }
                if (wrong == 1) {
                    System.out.println(log);
                }
            }
        }

        void score() {
            String text = random.nextInt(40) == 0 ? Writer.longText(random) : new Writer(random).score();
            if (random.nextInt(4) == 0) {
                text = Writer.spoilt(text, random);
            }
            byte[] bytes = new byte[text.length()];
            for (int i = 0; i < bytes.length; i++) {
                bytes[i] = (byte) text.charAt(i);
            }
            int most = random.nextInt(30) == 0 ? bytes.length : Math.min(bytes.length, 4000);
            int length = Math.min(most, 4020);
            log.append("text:\n").append(text).append("\n");
            for (int at = 0; at < length; at += 20) {
                int[] five = new int[5];
                for (int i = 0; i < 20; i++) {
                    int b = at + i < length ? bytes[at + i] & 255 : 32;
                    five[i / 4] |= b << 24 - 8 * (i % 4);
                }
                due("feed", studio.feed(five[0], five[1], five[2], five[3], five[4]), model.feed(five));
            }
            int n = random.nextInt(20) == 0 ? random.nextInt(5000) - 100 : (20 - length % 20) % 20;
            log.append("back ").append(n).append("\n");
            due("back(" + n + ")", studio.back(n), model.back(n));
            int want = model.read();
            log.append("read -> ").append(want).append("\n");
            due("read()", studio.read(), want);
            tally.reads++;
            tally.faults[want % 16]++;
        }

        void call() {
            int kind = random.nextInt(10);
            if (kind < 3) {
                int k = random.nextInt(5) - (random.nextInt(9) == 0 ? 2 : 0);
                log.append("play ").append(k).append("\n");
                due("play(" + k + ")", studio.play(k), model.play(k));
            } else if (kind < 7) {
                int n = random.nextInt(9) == 0 ? random.nextInt(520) - 5 : random.nextInt(6);
                log.append("run ").append(n).append("\n");
                int want = model.run(n);
                tally.halted += want >= 0 && want < n ? 1 : 0;
                due("run(" + n + ")", studio.run(n), want);
            } else {
                int[] a = {random.nextInt(16), random.nextInt(6), random.nextInt(6), random.nextInt(6), random.nextInt(4)};
                if (random.nextInt(10) == 0) {
                    int i = random.nextInt(5);
                    a[i] = random.nextBoolean() ? -1 : i == 0 ? 16 : 10;
                }
                log.append("act ").append(Arrays.toString(a)).append("\n");
                due("act" + Arrays.toString(a), studio.act(a[0], a[1], a[2], a[3], a[4]), model.act(a));
            }
        }

        void look() {
            for (int n = -1; n <= 12; n++) {
                for (int w = -1; w <= 2; w++) {
                    due("loop(" + n + ", " + w + ")", studio.loop(n, w), model.loop(n, w));
                }
                int length = Math.max(0, model.loop(n, 1));
                for (int i = -1; i <= length; i++) {
                    due("cell(" + n + ", " + i + ")", studio.cell(n, i), model.cell(n, i));
                }
                due("peak(" + n + ")", studio.peak(n), model.peak(n));
                for (int w = -1; w <= 8; w++) {
                    due("slot(" + n + ", " + w + ")", studio.slot(n, w), model.slot(n, w));
                }
            }
            for (int h = -1; h <= 10; h++) {
                for (int w = -1; w <= 2; w++) {
                    due("head(" + h + ", " + w + ")", studio.head(h, w), model.head(h, w));
                }
                due("dial(" + h + ")", studio.dial(h), model.dial(h));
            }
            for (int i = -1; i <= 9; i++) {
                for (int w = -1; w <= 4; w++) {
                    due("player(" + i + ", " + w + ")", studio.player(i, w), model.player(i, w));
                }
            }
            for (int w = -1; w <= 13; w++) {
                due("count(" + w + ")", studio.count(w), model.count(w));
            }
            for (int i = -1; i <= 30; i++) {
                for (int w = -1; w <= 3; w++) {
                    due("met(" + i + ", " + w + ")", studio.met(i, w), model.met(i, w));
                }
            }
        }
    }

    /** Writes random scores. */
    static final class Writer {
        final Random random;
        final StringBuilder text = new StringBuilder();
        final String[] names;

        Writer(Random random) {
            this.random = random;
            names = new String[1 + random.nextInt(4)];
            String[] pool = {"a", "b", "end", "loop", "partpart", "zz", "on"};
            int first = random.nextInt(4);
            for (int i = 0; i < names.length; i++) {
                names[i] = random.nextInt(200) == 0 ? "a" : pool[first + i];
            }
        }

        String score() {
            for (String name : names) {
                text.append("part ").append(name).append("\n");
                if (random.nextInt(3) > 0) {
                    setUp();
                }
                if (random.nextInt(3) == 0) {
                    lasting();
                } else {
                    lines(random.nextInt(9), 0);
                }
                text.append("end\n");
            }
            if (random.nextInt(6) == 0) {
                text.setLength(text.length() - 1);
            }
            return text.toString();
        }

        /** LINES that are done again and again, with an on for all that they meet. */
        void lasting() {
            boolean ever = random.nextInt(3) > 0;
            put(ever ? "while 0<1" : "if 0<1");
            put("try");
            lines(1 + random.nextInt(6), 2);
            put("on any");
            lines(random.nextInt(2), 2);
            put("end");
            if (random.nextInt(3) == 0) {
                put("wait " + random.nextInt(3));
            }
            put("end");
        }

        /** Cells of all that a division can come to: NaN, the infinite, and others. */
        void setUpQuotients() {
            text.append("loop 0,3\ndrum 1,3\nhead 0,0,0\nhead 1,1,0\n");
            text.append("put 0=").append(random.nextInt(2)).append("\nput 0=-1\nput 0=").append(sum(3)).append("\n");
            text.append("head 0,0,0\nput 1=0\nput 1=-").append(random.nextInt(2)).append("\nhead 1,1,0\nburst 14,0,1,0,0,3\n");
            text.append("head 0,0,").append(random.nextInt(3)).append("\nhead 1,1,").append(random.nextInt(3)).append("\n");
            text.append("try\nset ").append(random.nextInt(4)).append("=cell(0)\non any\nend\n");
        }

        void setUp() {
            if (random.nextInt(5) == 0) {
                setUpQuotients();
            }
            for (int i = random.nextInt(5); i > 0; i--) {
                text.append(random.nextBoolean() ? "loop " : "drum ").append(random.nextInt(4)).append(",");
                text.append(random.nextInt(6)).append("\n");
            }
            for (int i = random.nextInt(6); i > 0; i--) {
                text.append("head ").append(random.nextInt(6)).append(",").append(random.nextInt(4)).append(",");
                text.append(random.nextInt(4)).append("\n");
            }
            for (int i = random.nextInt(6); i > 0; i--) {
                text.append("put ").append(random.nextInt(6)).append("=").append(sum(0)).append("\n");
            }
            for (int i = random.nextInt(4); i > 0; i--) {
                text.append("set ").append(random.nextInt(4)).append("=").append(sum(0)).append("\n");
            }
        }

        void lines(int n, int depth) {
            for (int i = 0; i < n; i++) {
                line(depth);
                if (random.nextInt(25) == 0) {
                    text.append(random.nextBoolean() ? "\n" : "  ; a remark ~\n");
                }
            }
        }

        String thing(int most) {
            return random.nextInt(20) == 0 ? sum(1) : random.nextInt(25) == 0 ? "-1" : "" + random.nextInt(most);
        }

        void line(int depth) {
            int kind = random.nextInt(depth > 2 ? 19 : 25);
            switch (kind) {
                case 0: put("loop " + thing(4) + "," + size()); break;
                case 1: put("drum " + thing(4) + "," + size()); break;
                case 2: put(random.nextInt(3) == 0 ? "drop " + thing(4) : "turn " + thing(4)); break;
                case 3: put("head " + thing(6) + "," + thing(4) + "," + place()); break;
                case 4: put("set " + thing(4) + "=" + sum(0)); break;
                case 5:
                case 6: put("put " + thing(6) + "=" + sum(0)); break;
                case 7: put("glide " + thing(4) + "," + sum(0) + "," + (random.nextInt(5) - 1)); break;
                case 8:
                case 9: put("plug " + thing(12) + "," + box() + "," + (random.nextInt(15) == 0 ? sum(1) : "" + (1 + random.nextInt(3)))
                        + "," + answer()); break;
                case 10: put("pull " + thing(12)); break;
                case 11:
                case 12: put("burst " + box() + "," + (random.nextInt(20) == 0 ? "" + (295 + random.nextInt(10)) : "" + (random.nextInt(6) - 1))); break;
                case 13: put("copy " + thing(4) + "," + thing(4)); break;
                case 14: put((random.nextBoolean() ? "scene " : "recall ") + thing(4)); break;
                case 15: put("wait " + (random.nextInt(15) == 0 ? "999999*999999" : random.nextInt(8) == 0 ? sum(1) : "" + (random.nextInt(4) - 1))); break;
                case 16: put("do " + name()); break;
                case 17: put("start " + name()); break;
                case 18: put(random.nextInt(4) == 0 ? "stop" : "drop " + sum(2)); break;
                case 19:
                case 20: block("if " + condition(), depth, random.nextBoolean() ? "else" : ""); break;
                case 21: block("while " + condition(), depth, ""); break;
                default: tryBlock(depth); break;
            }
        }

        String name() {
            return random.nextInt(300) == 0 ? "nobody" : names[random.nextInt(names.length)];
        }

        String size() {
            return random.nextInt(12) == 0 ? sum(1) : random.nextInt(20) == 0 ? "-2" : random.nextInt(15) == 0 ? "" + (295 + random.nextInt(10)) : "" + random.nextInt(6);
        }

        String place() {
            return random.nextInt(30) == 0 ? "999999*999999" : "" + (random.nextInt(7) - 1);
        }

        String box() {
            String kind = random.nextInt(30) == 0 ? "16" : "" + random.nextInt(16);
            return kind + "," + thing(6) + "," + thing(6) + "," + thing(6) + "," + thing(4);
        }

        String answer() {
            return random.nextInt(20) == 0 ? sum(1) : random.nextInt(4) == 0 ? "" + (100 + random.nextInt(5)) : "" + random.nextInt(6);
        }

        void put(String line) {
            if (random.nextInt(40) == 0) {
                line = line.replace(",", " , ");
            }
            text.append(line).append("\n");
        }

        void block(String head, int depth, String middle) {
            put(head);
            lines(random.nextInt(4), depth + 1);
            if (!middle.isEmpty()) {
                put(middle);
                lines(random.nextInt(4), depth + 1);
            }
            put("end");
        }

        void tryBlock(int depth) {
            put("try");
            lines(random.nextInt(5), depth + 1);
            for (int ons = random.nextInt(3); ons >= 0; ons--) {
                String[] words = {"missing", "off", "size", "room", "zero", "full", "deep", "none", "any", "any", "any"};
                put("on " + words[random.nextInt(words.length)]);
                lines(random.nextInt(3), depth + 1);
            }
            put("end");
        }

        String condition() {
            if (random.nextInt(4) == 0) {
                return "0<1";
            }
            return sum(1) + "<>=".charAt(random.nextInt(3)) + sum(1);
        }

        String sum(int depth) {
            StringBuilder s = new StringBuilder(term(depth));
            while (random.nextInt(4) == 0) {
                s.append(random.nextBoolean() ? "+" : "-").append(term(depth));
            }
            return s.toString();
        }

        String term(int depth) {
            StringBuilder s = new StringBuilder(factor(depth));
            while (random.nextInt(4) == 0) {
                s.append(random.nextInt(3) > 0 ? "*" : "/").append(factor(depth));
            }
            return s.toString();
        }

        String factor(int depth) {
            int kind = random.nextInt(depth > 2 ? 8 : 20);
            switch (kind) {
                case 0: return "0";
                case 1: return "" + random.nextInt(12);
                case 2: return random.nextInt(100) + "." + random.nextInt(10000);
                case 3: return "999999";
                case 4: return "0.0001";
                case 5: return "now";
                case 6: return "hurt";
                case 7: return "" + random.nextInt(4);
                case 8: return "-" + factor(depth + 1);
                case 9: return "(" + sum(depth + 1) + ")";
                case 10: return "dial(" + random.nextInt(4) + ")";
                case 11: return "cell(" + random.nextInt(6) + ")";
                case 12: return "place(" + thing(6) + ")";
                case 13: return "length(" + thing(4) + ")";
                case 14: return "sum(" + thing(4) + ")";
                case 15: return "loud(" + thing(4) + ")";
                case 16: return "abs(" + sum(depth + 1) + ")";
                case 17: return "whole(" + sum(depth + 1) + ")";
                case 18: return "least(" + sum(depth + 1) + "," + sum(depth + 1) + ")";
                default: return "most(" + sum(depth + 1) + "," + sum(depth + 1) + ")";
            }
        }

        static String longText(Random random) {
            StringBuilder s = new StringBuilder("part a\n");
            int kind = random.nextInt(6);
            if (kind == 0) {
                int n = 196 + random.nextInt(8);
                for (int i = 0; i < n; i++) {
                    s.append("stop\n");
                }
            } else if (kind == 1) {
                s.append("end\n");
                int n = 27 + random.nextInt(5);
                for (int i = 0; i < n; i++) {
                    s.append("part a").append((char) ('a' + i / 26)).append((char) ('a' + i % 26)).append("\nend\n");
                }
                return s.toString();
            } else if (kind == 2) {
                s.append("set 0=1");
                int n = 590 + random.nextInt(6);
                for (int i = 0; i < n; i++) {
                    s.append("+1");
                }
                s.append("\n");
            } else if (kind == 3) {
                int n = 15 + random.nextInt(8);
                String[] heads = {"if 0<1\n", "while 0<1\n", "try\n"};
                for (int i = 0; i < n; i++) {
                    s.append(heads[random.nextInt(3)]);
                }
                s.append("set 0=");
                int m = random.nextInt(8);
                for (int i = 0; i < m; i++) {
                    s.append(random.nextBoolean() ? "-" : "(");
                }
                s.append("1\n");
            } else if (kind == 4) {
                int n = 17 + random.nextInt(6);
                s.append("set 0=");
                StringBuilder close = new StringBuilder();
                for (int i = 0; i < n; i++) {
                    int f = random.nextInt(4);
                    s.append(f == 0 ? "-" : f == 1 ? "1+2*(" : f == 2 ? "abs(" : "3-4*least(5,");
                    close.append(f == 0 ? "" : ")");
                }
                s.append("7").append(close).append("\n");
            } else {
                for (int i = 0; i < 300; i++) {
                    s.append("set 1=0.25\n");
                }
            }
            return s.append("end\n").toString();
        }

        static String spoilt(String text, Random random) {
            StringBuilder s = new StringBuilder(text);
            for (int i = 1 + random.nextInt(2); i > 0 && s.length() > 0; i--) {
                int at = random.nextInt(s.length());
                String bytes = "abz019.+-*/(),=<>; \n\t\u00e4A_#";
                char c = bytes.charAt(random.nextInt(bytes.length()));
                int how = random.nextInt(5);
                if (how == 0) {
                    s.deleteCharAt(at);
                } else if (how == 1) {
                    s.setCharAt(at, c);
                } else if (how == 2) {
                    s.insert(at, c);
                } else if (how == 3) {
                    s.setLength(at);
                } else {
                    String[] bits = {"1234567", "123456.12345", "12.", "abcdefghi", "part a\n", "end\n", "else\n", "on any\n", "1.5.2", "\n\n"};
                    s.insert(at, bits[random.nextInt(bits.length)]);
                }
            }
            return s.toString();
        }
    }

    static final class Refusal extends RuntimeException {
        final int kind;

        Refusal(int kind) {
            super(null, null, false, false);
            this.kind = kind;
        }
    }

    static final class Fault extends RuntimeException {
        final int kind;
        final int line;

        Fault(int kind, int line) {
            super(null, null, false, false);
            this.kind = kind;
            this.line = line;
        }
    }

    static final class Token {
        final char kind; // n NAME, 9 NUMBER, $ EOL, ! end of the text, ? bad, or the sign
        final String text;
        final int line;

        Token(char kind, String text, int line) {
            this.kind = kind;
            this.text = text;
            this.line = line;
        }
    }

    static final class Expr {
        String op;
        double number;
        List<Expr> of = new ArrayList<>();

        Expr(String op, Expr... of) {
            this.op = op;
            this.of.addAll(Arrays.asList(of));
        }
    }

    static final class Line {
        String word;
        List<Expr> e = new ArrayList<>();
        String name;
        char compare;
        List<Line> body = new ArrayList<>();
        List<Line> other = new ArrayList<>();
        List<Line> ons = new ArrayList<>();
    }

    static final class Parser {
        final List<Token> tokens = new ArrayList<>();
        int at = 0;
        int opens = 0;
        int lines = 0;
        int parts = 0;
        final List<String> names = new ArrayList<>();
        final List<List<Line>> bodies = new ArrayList<>();
        final List<String> calls = new ArrayList<>();
        static final Map<String, String> SHAPES = new HashMap<>();

        static {
            String[] shapes = {"loop E,E", "drum E,E", "drop E", "head E,E,E", "set E=E", "put E=E", "glide E,E,E",
                "plug E,E,E,E,E,E,E,E", "pull E", "burst E,E,E,E,E,E", "copy E,E", "turn E", "scene E", "recall E", "wait E"};
            for (String shape : shapes) {
                SHAPES.put(shape.substring(0, shape.indexOf(' ')), shape.substring(shape.indexOf(' ') + 1));
            }
        }

        Parser(String text) {
            String[] rows = text.split("\n", -1);
            for (int i = 0; i < rows.length; i++) {
                String row = rows[i];
                int remark = row.indexOf(';');
                if (!scan(remark < 0 ? row : row.substring(0, remark), i)) {
                    return;
                }
            }
            tokens.add(new Token('!', "", rows.length - 1));
        }

        boolean scan(String row, int line) {
            int i = 0;
            int before = tokens.size();
            while (i < row.length()) {
                String rest = row.substring(i);
                String found = "";
                char kind = '?';
                if (rest.charAt(0) == ' ') {
                    i++;
                    continue;
                } else if (rest.charAt(0) >= 'a' && rest.charAt(0) <= 'z') {
                    found = rest.replaceFirst("(?s)^([a-z]+).*", "$1");
                    kind = found.length() > 8 ? '?' : 'n';
                } else if (rest.charAt(0) >= '0' && rest.charAt(0) <= '9') {
                    found = rest.replaceFirst("(?s)^([0-9]+(\\.[0-9]+)?).*", "$1");
                    kind = found.matches("[0-9]{1,6}(\\.[0-9]{1,4})?") ? '9' : '?';
                } else if ("+-*/(),=<>".indexOf(rest.charAt(0)) >= 0) {
                    kind = rest.charAt(0);
                    found = "" + kind;
                }
                tokens.add(new Token(kind, found, line));
                if (kind == '?') {
                    return false;
                }
                i += found.length();
            }
            if (tokens.size() > before) {
                tokens.add(new Token('$', "", line));
            }
            return true;
        }

        Token peek() {
            return tokens.get(at);
        }

        RuntimeException cantStand() {
            return new Fault(peek().kind == '?' ? 1 : 2, peek().line);
        }

        boolean is(String word) {
            return peek().kind == 'n' && peek().text.equals(word);
        }

        String take(char kind) {
            if (peek().kind != kind) {
                throw cantStand();
            }
            return tokens.get(at++).text;
        }

        void takeWord(String word) {
            if (!is(word)) {
                throw cantStand();
            }
            at++;
        }

        void open() {
            if (opens == 20) {
                throw new Fault(4, peek().line);
            }
            opens++;
        }

        void score() {
            do {
                takeWord("part");
                if (peek().kind == 'n' && names.contains(peek().text)) {
                    throw new Fault(3, peek().line);
                }
                names.add(take('n'));
                take('$');
                bodies.add(lines("end"));
                takeWord("end");
                take('$');
            } while (peek().kind != '!');
            for (String call : calls) {
                if (!names.contains(call)) {
                    throw new Fault(5, 0);
                }
            }
            if (tokens.size() - 1 > 1200 || names.size() > 30 || lines > 200) {
                throw new Fault(6, 0);
            }
        }

        List<Line> lines(String... enders) {
            List<Line> found = new ArrayList<>();
            while (true) {
                for (String ender : enders) {
                    if (is(ender)) {
                        return found;
                    }
                }
                found.add(line());
            }
        }

        Line line() {
            Line line = new Line();
            if (peek().kind != 'n') {
                throw cantStand();
            }
            line.word = peek().text;
            lines++;
            if (SHAPES.containsKey(line.word)) {
                at++;
                for (char c : SHAPES.get(line.word).toCharArray()) {
                    if (c == 'E') {
                        line.e.add(sum());
                    } else {
                        take(c);
                    }
                }
                take('$');
                return line;
            }
            switch (line.word) {
                case "do":
                case "start":
                    at++;
                    line.name = take('n');
                    calls.add(line.name);
                    take('$');
                    return line;
                case "stop":
                    at++;
                    take('$');
                    return line;
                case "if":
                case "while":
                case "try":
                    open();
                    at++;
                    block(line);
                    opens--;
                    return line;
                default:
                    throw cantStand();
            }
        }

        void block(Line line) {
            if (!line.word.equals("try")) {
                line.e.add(sum());
                line.compare = peek().kind;
                if ("<>=".indexOf(line.compare) < 0) {
                    throw cantStand();
                }
                at++;
                line.e.add(sum());
            }
            take('$');
            if (line.word.equals("if")) {
                line.body = lines("else", "end");
                if (is("else")) {
                    at++;
                    lines++;
                    take('$');
                    line.other = lines("end");
                }
            } else if (line.word.equals("while")) {
                line.body = lines("end");
            } else {
                line.body = lines("on", "end");
                while (is("on")) {
                    at++;
                    lines++;
                    Line on = new Line();
                    on.word = "on";
                    if (!Arrays.asList("missing", "off", "size", "room", "zero", "full", "deep", "none", "any").contains(peek().text)) {
                        throw cantStand();
                    }
                    on.name = take('n');
                    take('$');
                    on.body = lines("on", "end");
                    line.ons.add(on);
                }
            }
            takeWord("end");
            take('$');
        }

        Expr sum() {
            Expr left = term();
            while (peek().kind == '+' || peek().kind == '-') {
                String op = "" + tokens.get(at++).kind;
                left = new Expr(op, left, term());
            }
            return left;
        }

        Expr term() {
            Expr left = factor();
            while (peek().kind == '*' || peek().kind == '/') {
                String op = "" + tokens.get(at++).kind;
                left = new Expr(op, left, factor());
            }
            return left;
        }

        Expr factor() {
            Token token = peek();
            if (token.kind == '9') {
                at++;
                Expr number = new Expr("9");
                number.number = Double.parseDouble(token.text);
                return number;
            }
            if (token.kind == '-') {
                open();
                at++;
                Expr of = factor();
                opens--;
                return new Expr("neg", of);
            }
            if (token.kind == '(') {
                open();
                at++;
                Expr of = sum();
                take(')');
                opens--;
                return of;
            }
            if (is("now") || is("hurt")) {
                at++;
                return new Expr(token.text);
            }
            if (token.kind == 'n' && Arrays.asList("dial", "cell", "place", "length", "sum", "loud", "abs", "whole", "least", "most")
                    .contains(token.text)) {
                at++;
                if (peek().kind != '(') {
                    throw cantStand();
                }
                open();
                at++;
                Expr made = new Expr(token.text, sum());
                if (is("x") || token.text.equals("least") || token.text.equals("most")) {
                    take(',');
                    made.of.add(sum());
                }
                take(')');
                opens--;
                return made;
            }
            throw cantStand();
        }
    }

    static final class Reel {
        float[] singles;
        double[] doubles;

        int length() {
            return singles != null ? singles.length : doubles.length;
        }

        double get(int i) {
            return singles != null ? singles[i] : doubles[i];
        }

        void put(int i, double v) {
            if (singles != null) {
                singles[i] = (float) v;
            } else {
                doubles[i] = v;
            }
        }
    }

    /** A list of LINES that a PLAYER is in: of a PART, or of a block within one. */
    static final class Level {
        final String sort; // part, if, while, try, on
        final List<Line> lines;
        final Line owner;
        final int part;
        int at = 0;
        boolean atOn = false;

        Level(String sort, List<Line> lines, Line owner, int part) {
            this.sort = sort;
            this.lines = lines;
            this.owner = owner;
            this.part = part;
        }
    }

    static final class Musician {
        final List<Level> levels = new ArrayList<>();
        int until = -1;
        int lines = 0;
        int hurt = 0;

        Level top() {
            return levels.get(levels.size() - 1);
        }

        int parts() {
            int n = 0;
            for (Level level : levels) {
                n += level.sort.equals("part") ? 1 : 0;
            }
            return n;
        }
    }

    static final class Model {
        final StringBuilder tape = new StringBuilder();
        final Reel[] loops = new Reel[12];
        final int[] over = new int[10];
        final int[] place = new int[10];
        final double[] dials = new double[10];
        final double[] step = new double[10];
        final double[] goal = new double[10];
        final int[] left = new int[10];
        final int[][] boxes = new int[12][];
        final Object[][] scenes = new Object[4][];
        List<String> names = new ArrayList<>();
        List<List<Line>> bodies = new ArrayList<>();
        final List<Musician> players = new ArrayList<>();
        final List<int[]> met = new ArrayList<>();
        final int[] kinds = new int[9];
        int now, linesDone, acts, actRefusals, lineRefusals, taken, fell, made, cellsMade;

        boolean worn() {
            return actRefusals + lineRefusals >= 2500;
        }

        int feed(int[] five) {
            if (tape.length() > 3980) {
                return -1;
            }
            for (int v : five) {
                for (int i = 3; i >= 0; i--) {
                    tape.append((char) (v >> 8 * i & 255));
                }
            }
            return tape.length();
        }

        int back(int n) {
            if (n < 0 || n > tape.length()) {
                return -1;
            }
            tape.setLength(tape.length() - n);
            return tape.length();
        }

        int read() {
            String text = tape.toString();
            tape.setLength(0);
            try {
                Parser parser = new Parser(text);
                parser.score();
                names = parser.names;
                bodies = parser.bodies;
                players.clear();
                return 0;
            } catch (Fault fault) {
                return 16 * fault.line + fault.kind;
            }
        }

        boolean begin(int k) {
            if (k < 0 || k >= names.size() || players.size() == 8) {
                return false;
            }
            Musician m = new Musician();
            m.levels.add(new Level("part", bodies.get(k), null, k));
            players.add(m);
            return true;
        }

        int play(int k) {
            return !worn() && begin(k) ? players.size() : -1;
        }

        int run(int n) {
            if (n < 0 || n > 500) {
                return -1;
            }
            for (int i = 1; i <= n; i++) {
                if (tick()) {
                    return i;
                }
            }
            return n;
        }

        void note(int kind, int where) {
            met.add(0, new int[] {now, kind, where});
            kinds[kind]++;
        }

        boolean tick() {
            for (Musician m : new ArrayList<>(players)) {
                turn(m);
            }
            boolean halted = false;
            for (int s = 0; s < 12; s++) {
                int[] box = boxes[s];
                if (box == null || now % box[5] != 0 || worn() || halted) {
                    continue;
                }
                try {
                    perform(box);
                } catch (Refusal refusal) {
                    note(refusal.kind, s);
                    actRefusals++;
                    box[7]++;
                    halted = answer(s, box);
                }
            }
            for (int g = 0; g < 10; g++) {
                if (left[g] > 0) {
                    left[g]--;
                    dials[g] = left[g] == 0 ? goal[g] : dials[g] + step[g];
                }
            }
            now++;
            return halted;
        }

        static String headsOf(int kind) {
            String[] told = {"pq", "pq", "pq", "p", "pqr", "pqr", "pqr", "pqr", "pqr", "p", "pq", "pq", "pqr", "p", "pq", "pq"};
            return told[kind];
        }

        boolean answer(int s, int[] box) {
            for (char c : headsOf(box[0]).toCharArray()) {
                int h = box[1 + c - 'p'];
                Reel reel = loops[over[h]];
                if (box[6] == 1) {
                    place[h] = 0;
                } else if (box[6] == 2 && reel != null && reel.length() > 0) {
                    place[h] = ((place[h] % reel.length()) + reel.length()) % reel.length();
                }
            }
            if (box[6] == 3) {
                boxes[s] = null;
            } else if (box[6] == 5) {
                dials[box[4]] /= 2;
                left[box[4]] = 0;
            } else if (box[6] >= 100) {
                begin(box[6] - 100);
            }
            return box[6] == 4;
        }

        // ACTS: a cell is {sort, loop, place}.
        int[] takeCell(char sort, int h, String how) {
            if (how.equals("+h")) {
                place[h]++;
            } else if (how.equals("-h")) {
                place[h]--;
            }
            int[] cell = {sort, over[h], place[h]};
            if (how.equals("h+")) {
                place[h]++;
            } else if (how.equals("h-")) {
                place[h]--;
            }
            return cell;
        }

        Reel checked(int[] cell) {
            Reel reel = loops[cell[1]];
            if (reel == null || (reel.singles != null) != (cell[0] == 'S')) {
                throw new Refusal(1);
            }
            if (cell[2] < 0 || cell[2] >= reel.length()) {
                throw new Refusal(2);
            }
            return reel;
        }

        double tell(int[] cell) {
            return checked(cell).get(cell[2]);
        }

        double tell(char sort, int h, String how) {
            return tell(takeCell(sort, h, how));
        }

        double set(int[] cell, double v) {
            Reel reel = checked(cell);
            reel.put(cell[2], v);
            return reel.get(cell[2]);
        }

        void perform(int[] box) {
            int p = box[1];
            int q = box[2];
            int r = box[3];
            double g = dials[box[4]];
            acts++;
            int[] a;
            int[] b;
            double x;
            double y;
            switch (box[0]) {
                case 0:
                    a = takeCell('S', p, "h+");
                    set(a, tell('D', q, "h+"));
                    break;
                case 1:
                    a = takeCell('D', p, "h-");
                    set(a, tell('S', q, "h+"));
                    break;
                case 2:
                    a = takeCell('D', p, "h");
                    x = tell(a);
                    set(a, x + tell('S', q, "h+") * g);
                    break;
                case 3:
                    a = takeCell('S', p, "h+");
                    set(a, tell(a) * g);
                    break;
                case 4:
                    a = takeCell('S', p, "h+");
                    b = takeCell('S', q, "h-");
                    set(b, tell('D', r, "h+"));
                    set(a, tell(b));
                    break;
                case 5:
                    a = takeCell('D', p, "h+");
                    b = takeCell('D', q, "h+");
                    set(b, tell('D', r, "h+") * g);
                    set(a, tell(b));
                    break;
                case 6:
                    a = takeCell('D', p, "h+");
                    x = tell('D', q, "h+");
                    set(a, x + tell('D', r, "h-") * g);
                    break;
                case 7:
                    a = takeCell('S', p, "h+");
                    set(a, tell(new int[] {'S', over[q], (int) tell('D', r, "h+")}));
                    break;
                case 8:
                    a = new int[] {'D', over[q], (int) tell('S', r, "h+")};
                    set(a, tell('S', p, "h+") * g);
                    break;
                case 9:
                    a = takeCell('S', p, "h");
                    x = tell('S', p, "+h");
                    set(a, (float) x - (float) tell('S', p, "h-"));
                    break;
                case 10:
                    a = takeCell('D', p, "h+");
                    x = tell(new int[] {'D', over[q], place[q] - 1});
                    y = tell('D', q, "h");
                    set(a, (x + y * 2 + tell('D', q, "+h")) / 4);
                    break;
                case 11:
                    x = tell('S', p, "h+");
                    dials[box[4]] = g + x * tell('D', q, "h+");
                    break;
                case 12:
                    a = takeCell('D', p, "h+");
                    x = tell(a);
                    b = takeCell('S', q, "h+");
                    y = tell(b);
                    set(b, y - tell('D', r, "h+"));
                    set(a, x - tell(b));
                    break;
                case 13:
                    a = takeCell('D', p, "+h");
                    x = tell(a);
                    set(a, x * tell('D', p, "-h"));
                    break;
                case 14:
                    a = takeCell('S', p, "h+");
                    x = tell(a);
                    set(a, x / tell('D', q, "h+"));
                    break;
                default:
                    a = new int[] {'D', over[p], (int) tell('S', q, "h-")};
                    set(a, tell(a) + g);
                    break;
            }
        }

        static boolean stands(int[] b) {
            return b[0] >= 0 && b[0] < 16 && b[1] >= 0 && b[1] < 10 && b[2] >= 0 && b[2] < 10 && b[3] >= 0 && b[3] < 10
                    && b[4] >= 0 && b[4] < 10;
        }

        int act(int[] a) {
            if (!stands(a) || worn()) {
                return -1;
            }
            try {
                perform(a);
                return 0;
            } catch (Refusal refusal) {
                note(refusal.kind, -1);
                actRefusals++;
                return refusal.kind;
            }
        }

        void turn(Musician m) {
            if (m.until > now) {
                return;
            }
            m.until = -1;
            rest(m);
            int did = 0;
            while (!m.levels.isEmpty() && m.until < 0 && did < 40 && !worn()) {
                did++;
                linesDone++;
                m.lines++;
                Level level = m.top();
                if (level.atOn) {
                    level.atOn = false;
                } else {
                    int part = level.part;
                    try {
                        line(m, level, level.lines.get(level.at));
                    } catch (Refusal refusal) {
                        note(refusal.kind, 100 + part);
                        lineRefusals++;
                        refused(m, refusal.kind);
                    }
                }
                rest(m);
            }
            if (m.levels.isEmpty()) {
                players.remove(m);
            }
        }

        /** Leaves what is over. */
        void rest(Musician m) {
            while (!m.levels.isEmpty()) {
                Level level = m.top();
                if (level.atOn || level.at < level.lines.size()) {
                    return;
                }
                if (level.sort.equals("part") && m.until >= 0) {
                    return;
                }
                m.levels.remove(m.levels.size() - 1);
                if (!m.levels.isEmpty() && !level.sort.equals("while")) {
                    m.top().at++;
                }
            }
        }

        void refused(Musician m, int kind) {
            String[] words = {"", "missing", "off", "size", "room", "zero", "full", "deep", "none"};
            while (!m.levels.isEmpty()) {
                Level level = m.top();
                if (level.sort.equals("try")) {
                    for (Line on : level.owner.ons) {
                        if (on.name.equals("any") || on.name.equals(words[kind])) {
                            m.levels.remove(m.levels.size() - 1);
                            Level next = new Level("on", on.body, level.owner, level.part);
                            next.atOn = !worn();
                            m.levels.add(next);
                            m.hurt = kind;
                            taken++;
                            return;
                        }
                    }
                }
                m.levels.remove(m.levels.size() - 1);
            }
            fell++;
        }

        static int thing(double v, int most) {
            int n = (int) v;
            if (n < 0 || n >= most) {
                throw new Refusal(8);
            }
            return n;
        }

        void room(int length) {
            if (length > 300 || made + 1 > 60 || cellsMade + length > 6000) {
                throw new Refusal(4);
            }
            made++;
            cellsMade += length;
        }

        Reel there(int n) {
            if (loops[n] == null) {
                throw new Refusal(1);
            }
            return loops[n];
        }

        static Reel reel(boolean singles, int length) {
            Reel reel = new Reel();
            if (singles) {
                reel.singles = new float[length];
            } else {
                reel.doubles = new double[length];
            }
            return reel;
        }

        void line(Musician m, Level level, Line line) {
            double[] e = new double[line.e.size()];
            for (int i = 0; i < e.length; i++) {
                e[i] = value(line.e.get(i), m);
            }
            boolean so = e.length == 2 && (line.compare == '<' ? e[0] < e[1] : line.compare == '>' ? e[0] > e[1] : e[0] == e[1]);
            switch (line.word) {
                case "if":
                    m.levels.add(new Level("if", so ? line.body : line.other, line, level.part));
                    return;
                case "while":
                    if (so) {
                        m.levels.add(new Level("while", line.body, line, level.part));
                    } else {
                        level.at++;
                    }
                    return;
                case "try":
                    m.levels.add(new Level("try", line.body, line, level.part));
                    return;
                case "do":
                    if (m.parts() == 12) {
                        throw new Refusal(7);
                    }
                    int k = names.indexOf(line.name);
                    m.levels.add(new Level("part", bodies.get(k), null, k));
                    return;
                case "start":
                    if (!begin(names.indexOf(line.name))) {
                        throw new Refusal(6);
                    }
                    break;
                case "stop":
                    m.levels.clear();
                    return;
                case "wait":
                    if ((int) e[0] >= 1) {
                        m.until = (int) Math.min(Integer.MAX_VALUE, (long) now + (int) e[0]);
                    }
                    break;
                default:
                    doing(line.word, e);
                    break;
            }
            level.at++;
        }

        void doing(String word, double[] e) {
            int n;
            int k;
            Reel reel;
            switch (word) {
                case "loop":
                case "drum":
                    n = thing(e[0], 12);
                    if ((int) e[1] < 0) {
                        throw new Refusal(3);
                    }
                    room((int) e[1]);
                    loops[n] = reel(word.equals("loop"), (int) e[1]);
                    break;
                case "drop":
                    loops[thing(e[0], 12)] = null;
                    break;
                case "head":
                    n = thing(e[0], 10);
                    over[n] = thing(e[1], 12);
                    place[n] = (int) e[2];
                    break;
                case "set":
                    n = thing(e[0], 10);
                    dials[n] = e[1];
                    left[n] = 0;
                    break;
                case "put":
                    n = thing(e[0], 10);
                    reel = there(over[n]);
                    if (place[n] < 0 || place[n] >= reel.length()) {
                        throw new Refusal(2);
                    }
                    reel.put(place[n]++, e[1]);
                    break;
                case "glide":
                    n = thing(e[0], 10);
                    k = (int) e[2];
                    if (k < 1) {
                        dials[n] = e[1];
                        left[n] = 0;
                    } else {
                        step[n] = (e[1] - dials[n]) / k;
                        goal[n] = e[1];
                        left[n] = k;
                    }
                    break;
                case "plug":
                    n = thing(e[0], 12);
                    int[] box = new int[8];
                    for (int i = 1; i < 8; i++) {
                        box[i - 1] = (int) e[i];
                    }
                    boolean known = box[6] >= 0 && box[6] <= 5 || box[6] >= 100 && box[6] <= 129;
                    if (!stands(box) || box[5] < 1 || box[5] > 60 || !known) {
                        throw new Refusal(8);
                    }
                    boxes[n] = box;
                    break;
                case "pull":
                    boxes[thing(e[0], 12)] = null;
                    break;
                case "burst":
                    int[] once = {(int) e[0], (int) e[1], (int) e[2], (int) e[3], (int) e[4]};
                    if (!stands(once) || (int) e[5] > 300) {
                        throw new Refusal(8);
                    }
                    for (int i = (int) e[5]; i > 0; i--) {
                        perform(once);
                    }
                    break;
                case "copy":
                    n = thing(e[0], 12);
                    reel = there(thing(e[1], 12));
                    room(reel.length());
                    Reel copy = reel(reel.singles != null, reel.length());
                    for (int i = 0; i < reel.length(); i++) {
                        copy.put(i, reel.get(i));
                    }
                    loops[n] = copy;
                    break;
                case "turn":
                    n = thing(e[0], 12);
                    reel = there(n);
                    room(reel.length());
                    Reel turned = reel(reel.singles == null, reel.length());
                    for (int i = 0; i < reel.length(); i++) {
                        turned.put(i, reel.get(i));
                    }
                    loops[n] = turned;
                    break;
                case "scene":
                    scenes[thing(e[0], 4)] = new Object[] {over.clone(), place.clone(), dials.clone()};
                    break;
                default:
                    n = thing(e[0], 4);
                    if (scenes[n] == null) {
                        throw new Refusal(1);
                    }
                    System.arraycopy(scenes[n][0], 0, over, 0, 10);
                    System.arraycopy(scenes[n][1], 0, place, 0, 10);
                    System.arraycopy(scenes[n][2], 0, dials, 0, 10);
                    Arrays.fill(left, 0);
                    break;
            }
        }

        double value(Expr x, Musician m) {
            double[] v = new double[x.of.size()];
            for (int i = 0; i < v.length; i++) {
                v[i] = value(x.of.get(i), m);
            }
            int n;
            switch (x.op) {
                case "9": return x.number;
                case "neg": return -v[0];
                case "+": return v[0] + v[1];
                case "-": return v[0] - v[1];
                case "*": return v[0] * v[1];
                case "/":
                    if (v[1] == 0) {
                        throw new Refusal(5);
                    }
                    return v[0] / v[1];
                case "now": return now;
                case "hurt": return m.hurt;
                case "abs": return Math.abs(v[0]);
                case "whole": return (int) v[0];
                case "least": return Math.min(v[0], v[1]);
                case "most": return Math.max(v[0], v[1]);
                case "dial": return dials[thing(v[0], 10)];
                case "place": return place[thing(v[0], 10)];
                case "cell":
                    n = thing(v[0], 10);
                    Reel reel = there(over[n]);
                    if (place[n] < 0 || place[n] >= reel.length()) {
                        throw new Refusal(2);
                    }
                    return reel.get(place[n]);
                case "length": return there(thing(v[0], 12)).length();
                case "loud": return loudest(there(thing(v[0], 12)));
                default:
                    Reel summed = there(thing(v[0], 12));
                    double sum = 0;
                    for (int i = 0; i < summed.length(); i++) {
                        sum += summed.get(i);
                    }
                    return sum;
            }
        }

        static double loudest(Reel reel) {
            double most = 0;
            for (int i = 0; i < reel.length(); i++) {
                most = Math.max(most, Math.abs(reel.get(i)));
            }
            return most;
        }

        // What is looked at.
        int loop(int n, int what) {
            if (n < 0 || n > 11 || loops[n] == null) {
                return -1;
            }
            return what == 0 ? loops[n].singles != null ? 0 : 1 : what == 1 ? loops[n].length() : -1;
        }

        long cell(int n, int i) {
            if (n < 0 || n > 11 || loops[n] == null || i < 0 || i >= loops[n].length()) {
                return 0;
            }
            return loops[n].singles != null ? Float.floatToIntBits(loops[n].singles[i]) : Double.doubleToLongBits(loops[n].doubles[i]);
        }

        long peak(int n) {
            return n < 0 || n > 11 || loops[n] == null ? 0 : Double.doubleToLongBits(loudest(loops[n]));
        }

        int head(int h, int what) {
            return h < 0 || h > 9 ? 0 : what == 0 ? over[h] : what == 1 ? place[h] : 0;
        }

        long dial(int g) {
            return g < 0 || g > 9 ? 0 : Double.doubleToLongBits(dials[g]);
        }

        int slot(int s, int what) {
            return s < 0 || s > 11 || boxes[s] == null || what < 0 || what > 7 ? -1 : boxes[s][what];
        }

        int player(int i, int what) {
            if (i < 0 || i >= players.size() || what < 0 || what > 3) {
                return -1;
            }
            Musician m = players.get(i);
            return what == 0 ? m.top().part : what == 1 ? m.parts() : what == 2 ? m.until : m.lines;
        }

        int count(int what) {
            int gliding = 0;
            for (int l : left) {
                gliding += l > 0 ? 1 : 0;
            }
            int latest = met.isEmpty() ? 0 : met.get(0)[1];
            int[] all = {now, names.size(), players.size(), linesDone, acts, actRefusals, lineRefusals, taken, fell, latest, made,
                cellsMade, gliding};
            return what < 0 || what >= all.length ? -1 : all[what];
        }

        int met(int i, int what) {
            return i < 0 || i >= 30 || i >= met.size() || what < 0 || what > 2 ? -1 : met.get(i)[what];
        }
    }
}
