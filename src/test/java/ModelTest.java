import java.lang.reflect.Method;
import java.nio.charset.StandardCharsets;
import java.util.ArrayDeque;
import java.util.ArrayList;
import java.util.Arrays;
import java.util.Comparator;
import java.util.Deque;
import java.util.HashMap;
import java.util.HashSet;
import java.util.List;
import java.util.Map;
import java.util.Random;
import java.util.Set;
import java.util.TreeMap;
import java.util.regex.Matcher;
import java.util.regex.Pattern;

/**
 * Random runs of calls, on FootLower and on a second program that was written from the document alone, in
 * the slowest and plainest way: every answer must be the same. The runs are the same each time.
 */
public final class ModelTest {
    private static final int RUNS = 600;
    private static final int CALLS = 505;
    private static int wrong = 0;

    public static void main(String[] args) throws Exception {
        long firstSeed = args.length > 0 ? Long.parseLong(args[0]) : 1;
        int runs = args.length > 1 ? Integer.parseInt(args[1]) : RUNS;
        Map<String, Integer> kinds = new TreeMap<>();
        for (long seed = firstSeed; seed < firstSeed + runs && wrong < 10; seed++) {
            new Run(seed, kinds).go();
        }
        if (args.length > 2) {
            kinds.forEach((k, n) -> System.out.println(k + " " + n));
        }
        System.out.println(wrong == 0 ? "the model agrees" : wrong + " answers are not the model's");
        if (wrong != 0) {
            System.exit(1);
        }
    }

    /** One run: a new object, a new model, calls on both. */
    private static final class Run {
        private final long seed;
        private final Random random;
        private final Map<String, Integer> kinds;
        private final FootLower real = new FootLower();
        private final Model model = new Model();
        private final List<String> told = new ArrayList<>();
        private int calls = 0;

        Run(long seed, Map<String, Integer> kinds) {
            this.seed = seed;
            this.random = new Random(seed);
            this.kinds = kinds;
        }

        void go() throws Exception {
            int texts = 1 + random.nextInt(3);
            for (int t = 0; t < texts && wrong < 10; t++) {
                if (random.nextInt(12) == 0) {
                    oneCall();
                }
                while (random.nextInt(3) == 0) {
                    mountText(spoiled(text()));
                }
                mountText(text());
                int share = t + 1 == texts ? CALLS : CALLS * (t + 1) / texts;
                while (calls < share && wrong < 10) {
                    oneCall();
                }
            }
        }

        private void mountText(String text) throws Exception {
            byte[] bytes = text.getBytes(StandardCharsets.ISO_8859_1);
            int ahead = (int) call("count", 7);
            byte[] padded = Arrays.copyOf(bytes, (bytes.length + 19) / 20 * 20);
            for (int i = 0; i + 20 <= padded.length; i += 20) {
                Object[] five = new Object[5];
                for (int k = 0; k < 5; k++) {
                    int number = 0;
                    for (int b = 0; b < 4; b++) {
                        number = number << 8 | padded[i + 4 * k + b] & 255;
                    }
                    five[k] = number;
                }
                call("feed", five);
            }
            call("end", ahead + bytes.length);
            call("mount");
            call("fault", 0);
            call("fault", 1);
        }

        private String text() {
            StringBuilder out = new StringBuilder();
            int cells = 3 + random.nextInt(8);
            int most = new int[] {2, 6, 9, 12, 12, 15, 40}[random.nextInt(7)];
            out.append("mount");
            for (int c = 0; c < cells; c++) {
                out.append(' ').append(random.nextInt(3) == 0 ? random.nextInt(3) : random.nextInt(most + 1));
            }
            out.append(" snow ").append(random.nextInt(most + 1));
            out.append(" rest ").append(1 + random.nextInt(random.nextBoolean() ? 3 : 40));
            out.append(" names ").append(1 + random.nextInt(random.nextBoolean() ? 40 : 200));
            out.append(random.nextBoolean() ? " first;" : " last;");
            int folk = random.nextInt(9);
            for (int f = 0; f < folk; f++) {
                if (random.nextInt(12) == 0) {
                    out.append(random.nextBoolean() ? "\n" : " ").append("heap ").append(random.nextInt(cells)).append(';');
                }
                out.append("folk at ").append(random.nextInt(cells));
                out.append(" names ").append(1 + random.nextInt(random.nextBoolean() ? 30 : 99));
                out.append(" sun ").append(random.nextInt(4) == 0 ? 0 : random.nextInt(10));
                out.append(" snow ").append(random.nextInt(4) > 0 ? 0 : random.nextInt(10));
                out.append(" view ").append(random.nextInt(4) > 0 ? 0 : random.nextInt(10));
                if (f > 0 && random.nextInt(3) > 0) {
                    out.append(" talk ").append(1 + random.nextInt(3)).append(" with");
                    int friends = 1 + random.nextInt(4);
                    for (int i = 0; i < friends; i++) {
                        out.append(' ').append(random.nextInt(f));
                    }
                }
                out.append(";");
            }
            if (random.nextBoolean()) {
                out.append("\nheap ").append(random.nextInt(cells)).append(" ;");
            }
            return out.toString();
        }

        /** A text with a small fault, perhaps. */
        private String spoiled(String text) {
            String[] bits = {"mount", "folk", "heap 1;", ";", " 41 ", " 0 ", "99999999999999999999", "-", "A", "snow", "9",
                "talk 1 with 0", "folk at 0 names 1 sun 1 snow 1 view 1;", "é", " ", "\n", "\t", "007", "first", "x", "100",
                "folk at 1 names 9 sun 1 snow 1 view 1;folk at 1 names 9 sun 1 snow 1 view 1;", " 1 2 3 4 5 6 7 8 "};
            int at = random.nextInt(text.length() + 1);
            switch (random.nextInt(4)) {
                case 0:
                    return text.substring(0, at);
                case 1:
                    int to = Math.min(text.length(), at + 1 + random.nextInt(6));
                    return text.substring(0, at) + text.substring(to);
                case 2:
                    return random.nextInt(5) == 0 ? " \n ".repeat(random.nextInt(3)) : " " + text.replace(" ", "  ");
                default:
                    return text.substring(0, at) + bits[random.nextInt(bits.length)] + text.substring(at);
            }
        }

        private static final Map<String, int[]> BOUNDS = new HashMap<>();
        private static final String[] FREQUENT = {"take", "heap", "undo", "take", "row", "write", "paste"};

        static {
            String[] table = {"end 0 3", "mount", "fault 0 1", "folk 0 7 0 6", "height 0 9", "shade 0 9 -9 9", "light 0 9",
                "dark -9 9", "snow", "top", "gain 0 7", "hopes 0 7 0 20", "wishes 0 7", "gains", "take", "heap 0 9", "slides 0 9",
                "undo", "anew", "willing", "signers 0 255", "names 0 255", "first", "firsts", "next 0 255", "needed", "play 0 4 0 1",
                "moves 0 4 0 1", "round 0 9 1 120", "goes 0 9 1 120 0 1", "two 0 9 0 9 1 120", "flows 0 9", "basin 0 9", "cliffs",
                "springs", "sees 0 9", "lookout", "votes 0 9 0 9", "elected", "best", "shape 0 3", "shaped 0 3 0 2", "spoil",
                "course 1 120", "ends 1 120", "left 1 120 0 7", "law 1 12", "raisers", "old 0 3", "ask 0 3 0 9", "leaves 0 3 0 9",
                "doubts 0 3", "stands 0 3", "struck 0 3 0 1", "drawn 0 2000000000 0 40 0 2", "luck 0 2000000000 1 20 0 40",
                "tell 1 120", "likes 0 7 0 2 0 8", "count 0 9", "image 0 2", "back 0 2", "row 0 3 0 3 0 12", "write 0 3 0 11 -3 12",
                "paste 0 3 0 6 0 3 0 6 0 6"};
            for (String line : table) {
                String[] parts = line.split(" ");
                int[] bounds = new int[parts.length - 1];
                for (int i = 1; i < parts.length; i++) {
                    bounds[i - 1] = Integer.parseInt(parts[i]);
                }
                BOUNDS.put(parts[0], bounds);
            }
        }

        private void oneCall() throws Exception {
            if (random.nextInt(40) == 0) {
                fillRow();
                return;
            }
            if (random.nextInt(100) == 0) {
                call("anew");
                call("tell", number(1, 120, 2));
                call("likes", number(0, 7, 2), number(0, 2, 3), number(0, 9, 3));
            }
            List<String> all = new ArrayList<>(BOUNDS.keySet());
            all.sort(Comparator.naturalOrder());
            String name = random.nextInt(6) == 0 ? FREQUENT[random.nextInt(FREQUENT.length)] : all.get(random.nextInt(all.size()));
            boolean rare = name.equals("mount") && random.nextInt(30) > 0
                || (name.equals("anew") || name.equals("back")) && random.nextInt(3) > 0
                || name.equals("back") && real.count(0) > 0 && random.nextInt(4) > 0;
            if (rare) {
                return;
            }
            int[] bounds = BOUNDS.get(name);
            Object[] given = new Object[bounds.length / 2];
            for (int i = 0; i < given.length; i++) {
                given[i] = number(bounds[2 * i], bounds[2 * i + 1], given.length);
                // Bounds of 9 and of 7 are those of CELLS and of FOLK: mostly there are fewer.
                if (bounds[2 * i] == 0 && bounds[2 * i + 1] == 9 && !name.equals("count") && (int) given[i] >= 0 && random.nextInt(8) > 0) {
                    given[i] = (int) given[i] % Math.max(1, real.count(0));
                }
                if (bounds[2 * i] == 0 && bounds[2 * i + 1] == 7 && (int) given[i] >= 0 && random.nextInt(8) > 0) {
                    given[i] = (int) given[i] % Math.max(1, real.count(1));
                }
                if (bounds[2 * i] == 1 && bounds[2 * i + 1] == 120 && (int) given[i] > 0 && random.nextInt(3) > 0) {
                    given[i] = 1 + (int) given[i] % Math.max(1, real.names(0));
                }
            }
            if (name.equals("write")) {
                given[2] = random.nextInt(5) == 0 ? random.nextLong() : (long) (int) given[2];
            }
            if ((name.equals("signers") || name.equals("names") || name.equals("next")) && random.nextInt(6) > 0) {
                given[0] = (int) given[0] & (1 << real.count(1)) - 1;
            }
            call(name, given);
        }

        /** Mostly within its bounds, sometimes just beyond them, seldom far away. */
        private int number(int least, int most, int of) {
            int kind = random.nextInt(12 * of);
            if (kind == 0) {
                return random.nextBoolean() ? least - 1 : most + 1;
            }
            if (kind == 1 && random.nextInt(3) == 0) {
                int[] far = {Integer.MIN_VALUE, Integer.MAX_VALUE, 60, 61, 800, 801, 999, 1000, -1000, 64, random.nextInt()};
                return far[random.nextInt(far.length)];
            }
            if (most > 1000) {
                return random.nextInt(3) == 0 ? random.nextInt(50) : (int) (random.nextDouble() * most);
            }
            return least + random.nextInt(most - least + 1);
        }

        /** A row that tells something: shadows of an old height, or names of FOLK. */
        private void fillRow() throws Exception {
            int slot = random.nextInt(4);
            boolean shadows = random.nextInt(3) > 0;
            int each = shadows ? 3 : 2;
            int rows = random.nextInt(shadows ? 5 : 12);
            if (!shadows && random.nextInt(4) == 0) {
                rows = 30;
            }
            call("row", slot, 1 + random.nextInt(3), rows * each);
            int cells = Math.max(1, real.count(0));
            int folk = Math.max(1, real.count(1));
            int k = random.nextInt(8);
            for (int r = 0; r < rows; r++) {
                if (shadows) {
                    int cell = random.nextInt(cells);
                    int hour = (1 + random.nextInt(9)) * (random.nextBoolean() ? 1 : -1);
                    int shaded = random.nextInt(8) == 0 ? random.nextInt(2) : model.oldShade(cell, hour, k);
                    call("write", slot, 3 * r, (long) cell);
                    call("write", slot, 3 * r + 1, (long) hour);
                    call("write", slot, 3 * r + 2, (long) shaded);
                } else {
                    call("write", slot, 2 * r, (long) random.nextInt(folk));
                    call("write", slot, 2 * r + 1, (long) random.nextInt(random.nextInt(6) == 0 ? 1000 : 12));
                }
            }
            int cell = random.nextInt(cells);
            if (shadows) {
                call("old", slot);
                call("ask", slot, cell);
                call("leaves", slot, cell);
                call("doubts", slot);
            } else {
                call("stands", slot);
                call("struck", slot, 0);
                call("struck", slot, 1);
            }
        }

        private Object call(String name, Object... given) throws Exception {
            calls++;
            Object got = find(FootLower.class, name).invoke(real, given);
            Object due = find(Model.class, name).invoke(model, given);
            String row = name + Arrays.toString(given);
            told.add(row + " = " + got);
            int answer = (int) got;
            kinds.merge(name + (answer == -2 || answer == -1000 ? " refused" : answer == -1 ? " none" : answer < 0 ? " " + answer : ""), 1, Integer::sum);
            if (!got.equals(due)) {
                wrong++;
                System.out.println("seed " + seed + ", call " + calls + ": " + row + " answered " + got + ", the model has " + due);
                System.out.println("  " + model);
            }
            return got;
        }

        private static final Map<String, Method> METHODS = new HashMap<>();

        private static Method find(Class<?> in, String name) {
            return METHODS.computeIfAbsent(in.getName() + "." + name, key -> {
                for (Method m : in.getDeclaredMethods()) {
                    if (m.getName().equals(name)) {
                        m.setAccessible(true);
                        return m;
                    }
                }
                throw new IllegalStateException("no method " + name);
            });
        }
    }

    /** What the document says, as plainly as can be; its calls bear the names of the face. */
    static final class Model {
        record Folk(int cell, int names, int sun, int snow, int view, int talk, Set<Integer> friends) { }

        static final class State {
            int[] h;
            int snow;
            int rest;
            int law;
            boolean last;
            int heap;
            int lines;
            List<Folk> folk = new ArrayList<>();
            List<int[]> before = new ArrayList<>();

            State copy() {
                State s = new State();
                s.h = h.clone();
                s.snow = snow;
                s.rest = rest;
                s.law = law;
                s.last = last;
                s.heap = heap;
                s.lines = lines;
                for (Folk f : folk) {
                    s.folk.add(new Folk(f.cell, f.names, f.sun, f.snow, f.view, f.talk, new HashSet<>(f.friends)));
                }
                for (int[] b : before) {
                    s.before.add(b.clone());
                }
                return s;
            }
        }

        static final class Fault extends RuntimeException {
            private static final long serialVersionUID = 1;
            final int kind;
            final int place;

            Fault(int kind, int place) {
                this.kind = kind;
                this.place = place;
            }
        }

        String tape = "";
        State s = null;
        int fault = 0;
        int place = -1;
        final State[] images = new State[3];
        final boolean[] imaged = new boolean[3];
        final long[][] rows = new long[4][];
        final int[] widths = new int[4];

        @Override
        public String toString() {
            return s == null ? "no mountain" : Arrays.toString(s.h) + " snow " + s.snow + " rest " + s.rest + " law " + s.law
                + (s.last ? " last " : " first ") + s.folk + " heap " + s.heap;
        }

        // ---- text ----

        int feed(int a, int b, int c, int d, int e) {
            if (tape.length() > 880) {
                return -1;
            }
            for (int n : new int[] {a, b, c, d, e}) {
                tape += "" + (char) (n >>> 24) + (char) (n >>> 16 & 255) + (char) (n >>> 8 & 255) + (char) (n & 255);
            }
            return tape.length();
        }

        int end(int n) {
            if (n < 0 || n > tape.length()) {
                return -1;
            }
            tape = tape.substring(0, n);
            return n;
        }

        /** A TOKEN's text and place. */
        record Token(String text, int place) { }

        static List<Token> tokens(String text) {
            List<Token> all = new ArrayList<>();
            Matcher m = Pattern.compile("[a-z]+|[0-9]+|[^ \n]", Pattern.DOTALL).matcher(text);
            while (m.find()) {
                all.add(new Token(m.group(), m.start()));
            }
            all.add(new Token("", text.length()));
            return all;
        }

        static int number(Token t, int least, int most) {
            if (!t.text.matches("[0-9]+")) {
                throw new Fault(1, t.place);
            }
            java.math.BigInteger n = new java.math.BigInteger(t.text);
            if (n.compareTo(java.math.BigInteger.valueOf(least)) < 0 || n.compareTo(java.math.BigInteger.valueOf(most)) > 0) {
                throw new Fault(2, t.place);
            }
            return n.intValue();
        }

        static void word(Token t, String... words) {
            if (!Arrays.asList(words).contains(t.text)) {
                throw new Fault(1, t.place);
            }
        }

        static State parse(String text) {
            Deque<Token> left = new ArrayDeque<>(tokens(text));
            if (left.peek().text.isEmpty()) {
                return null;
            }
            State s = new State();
            word(left.poll(), "mount");
            List<Integer> heights = new ArrayList<>();
            while (!left.peek().text.equals("snow") || heights.size() < 3) {
                int h = number(left.peek(), 0, 40);
                if (heights.size() == 10) {
                    throw new Fault(3, left.peek().place);
                }
                heights.add(h);
                left.poll();
            }
            s.h = heights.stream().mapToInt(Integer::intValue).toArray();
            word(left.poll(), "snow");
            s.snow = number(left.poll(), 0, 40);
            word(left.poll(), "rest");
            s.rest = number(left.poll(), 1, 40);
            word(left.poll(), "names");
            s.law = number(left.poll(), 1, 999);
            s.last = left.peek().text.equals("last");
            word(left.poll(), "first", "last");
            word(left.poll(), ";");
            s.lines = 1;
            while (!left.peek().text.isEmpty()) {
                Token first = left.poll();
                word(first, "folk", "heap");
                if (first.text.equals("heap")) {
                    s.heap = number(left.poll(), 0, s.h.length - 1);
                } else {
                    folkLine(s, first, left);
                }
                word(left.poll(), ";");
                s.lines++;
            }
            return s;
        }

        static void folkLine(State s, Token first, Deque<Token> left) {
            if (s.folk.size() == 8) {
                throw new Fault(3, first.place);
            }
            word(left.poll(), "at");
            int cell = number(left.poll(), 0, s.h.length - 1);
            word(left.poll(), "names");
            int names = number(left.poll(), 1, 99);
            word(left.poll(), "sun");
            int sun = number(left.poll(), 0, 9);
            word(left.poll(), "snow");
            int snow = number(left.poll(), 0, 9);
            word(left.poll(), "view");
            int view = number(left.poll(), 0, 9);
            int talk = 0;
            Set<Integer> friends = new HashSet<>();
            if (left.peek().text.equals("talk")) {
                left.poll();
                talk = number(left.poll(), 1, 7);
                word(left.poll(), "with");
                do {
                    friends.add(number(left.poll(), 0, s.folk.size() - 1));
                } while (left.peek().text.matches("[0-9]+"));
            }
            for (int f : friends) {
                s.folk.get(f).friends.add(s.folk.size());
            }
            s.folk.add(new Folk(cell, names, sun, snow, view, talk, friends));
        }

        int mount() {
            String text = tape;
            tape = "";
            fault = 0;
            place = -1;
            try {
                s = parse(text);
            } catch (Fault f) {
                fault = f.kind;
                place = f.place;
                return -4;
            }
            return s == null ? 0 : s.lines;
        }

        int fault(int what) {
            return what == 0 ? fault : what == 1 ? place : -1;
        }

        // ---- the ground ----

        boolean cell(int c) {
            return s != null && c >= 0 && c < s.h.length;
        }

        boolean isFolk(int f) {
            return s != null && f >= 0 && f < s.folk.size();
        }

        static boolean hour(int h) {
            return h >= -9 && h <= 9 && h != 0;
        }

        static boolean inShade(int[] h, int cell, int hour) {
            for (int j = 0; j < h.length; j++) {
                if (hour > 0 && j < cell && h[j] - h[cell] > hour * (cell - j)) {
                    return true;
                }
                if (hour < 0 && j > cell && h[j] - h[cell] > -hour * (j - cell)) {
                    return true;
                }
            }
            return false;
        }

        static int lit(int[] h, int cell) {
            int n = 0;
            for (int hour = -9; hour <= 9; hour++) {
                if (hour != 0 && !inShade(h, cell, hour)) {
                    n++;
                }
            }
            return n;
        }

        static int topCell(int[] h, boolean last) {
            int top = Arrays.stream(h).max().getAsInt();
            List<Integer> like = new ArrayList<>();
            for (int c = 0; c < h.length; c++) {
                if (h[c] == top) {
                    like.add(c);
                }
            }
            return last ? like.get(like.size() - 1) : like.get(0);
        }

        static int topHeight(int[] h) {
            return Arrays.stream(h).max().getAsInt();
        }

        int gainOf(int[] h, Folk f) {
            int snowy = (int) Arrays.stream(h).filter(x -> x >= s.snow).count();
            return f.sun * lit(h, f.cell) + f.snow * snowy + f.view * topHeight(h);
        }

        int gainsOf(int[] h) {
            return s.folk.stream().mapToInt(f -> gainOf(h, f)).sum();
        }

        int[] plus(int[] h, int cell, int feet) {
            int[] n = h.clone();
            n[cell] += feet;
            return n;
        }

        int[] taken(int[] h) {
            return topHeight(h) == 0 ? h.clone() : plus(h, topCell(h, s.last), -1);
        }

        int stay(int[] h, int cell) {
            int[] with = plus(h, cell, 1);
            List<Integer> on = new ArrayList<>();
            for (int beside : new int[] {cell - 1, cell + 1}) {
                if (beside >= 0 && beside < h.length && with[cell] - with[beside] > s.rest) {
                    on.add(beside);
                }
            }
            if (on.isEmpty()) {
                return h[cell] >= 99 ? -1 : cell;
            }
            int to = on.size() == 2 && h[on.get(1)] < h[on.get(0)] ? on.get(1) : on.get(0);
            return stay(h, to);
        }

        int folk(int f, int what) {
            if (!isFolk(f) || what < 0 || what > 6) {
                return -2;
            }
            Folk k = s.folk.get(f);
            int bits = 0;
            for (int g : k.friends) {
                bits += 1 << g;
            }
            return new int[] {k.cell, k.names, k.sun, k.snow, k.view, k.talk, bits}[what];
        }

        int height(int c) {
            return cell(c) ? s.h[c] : -2;
        }

        int shade(int c, int hour) {
            return !cell(c) || !hour(hour) ? -2 : inShade(s.h, c, hour) ? 1 : 0;
        }

        int light(int c) {
            return cell(c) ? lit(s.h, c) : -2;
        }

        int dark(int hour) {
            if (s == null || !hour(hour)) {
                return -2;
            }
            int bits = 0;
            for (int c = 0; c < s.h.length; c++) {
                bits += inShade(s.h, c, hour) ? 1 << c : 0;
            }
            return bits;
        }

        int snow() {
            if (s == null) {
                return -2;
            }
            int bits = 0;
            for (int c = 0; c < s.h.length; c++) {
                bits += s.h[c] < s.snow ? 0 : 1 << c;
            }
            return bits;
        }

        int top() {
            return s == null ? -2 : topCell(s.h, s.last);
        }

        int gain(int f) {
            return isFolk(f) ? gainOf(s.h, s.folk.get(f)) : -1000;
        }

        int hopes(int f, int n) {
            if (!isFolk(f) || n < 0 || n > 20) {
                return -1000;
            }
            int[] h = s.h;
            for (int i = 0; i < n; i++) {
                h = taken(h);
            }
            return gainOf(h, s.folk.get(f)) - gainOf(s.h, s.folk.get(f));
        }

        int wishes(int f) {
            if (!isFolk(f)) {
                return -2;
            }
            int best = 0;
            for (int n = 0; n <= 20; n++) {
                if (hopes(f, n) > hopes(f, best)) {
                    best = n;
                }
            }
            return best;
        }

        int gains() {
            return s == null ? -2 : gainsOf(s.h);
        }

        // ---- acts ----

        int take() {
            if (s == null) {
                return -2;
            }
            if (topHeight(s.h) == 0 || s.before.size() == 60) {
                return -5;
            }
            int c = topCell(s.h, s.last);
            s.before.add(s.h);
            s.h = plus(s.h, c, -1);
            return c;
        }

        int heap(int c) {
            if (!cell(c)) {
                return -2;
            }
            int to = stay(s.h, c);
            if (to == -1 || s.before.size() == 60) {
                return -5;
            }
            s.before.add(s.h);
            s.h = plus(s.h, to, 1);
            return to;
        }

        int slides(int c) {
            return cell(c) ? stay(s.h, c) : -2;
        }

        int undo() {
            if (s == null) {
                return -2;
            }
            if (s.before.isEmpty()) {
                return -5;
            }
            s.h = s.before.remove(s.before.size() - 1);
            return s.before.size();
        }

        int anew() {
            if (s == null) {
                return -2;
            }
            int n = s.before.size();
            if (n > 0) {
                s.h = s.before.get(0);
            }
            s.before.clear();
            return n;
        }

        // ---- who signs ----

        Set<Integer> willingOn(int[] h) {
            Set<Integer> all = new HashSet<>();
            for (int f = 0; f < s.folk.size(); f++) {
                if (gainOf(taken(h), s.folk.get(f)) > gainOf(h, s.folk.get(f))) {
                    all.add(f);
                }
            }
            return all;
        }

        Set<Integer> signersBy(Set<Integer> willing, Set<Integer> won, Set<Integer> barred) {
            Set<Integer> all = new HashSet<>(willing);
            all.addAll(won);
            all.removeAll(barred);
            boolean more = true;
            while (more) {
                more = false;
                for (int f = 0; f < s.folk.size(); f++) {
                    Folk k = s.folk.get(f);
                    if (k.talk > 0 && !all.contains(f) && !barred.contains(f)
                        && k.friends.stream().filter(all::contains).count() >= k.talk) {
                        all.add(f);
                        more = true;
                    }
                }
            }
            return all;
        }

        int namesBy(Set<Integer> set) {
            return set.stream().mapToInt(f -> s.folk.get(f).names).sum();
        }

        static int bits(Set<Integer> set) {
            return set.stream().mapToInt(f -> 1 << f).sum();
        }

        static Set<Integer> set(int bits) {
            Set<Integer> all = new HashSet<>();
            for (int f = 0; f < 8; f++) {
                if ((bits & 1 << f) != 0) {
                    all.add(f);
                }
            }
            return all;
        }

        boolean isSet(int bits) {
            return s != null && bits >= 0 && bits < Math.pow(2, s.folk.size());
        }

        int willing() {
            return s == null ? -2 : bits(willingOn(s.h));
        }

        int signers(int set) {
            return isSet(set) ? bits(signersBy(willingOn(s.h), set(set), Set.of())) : -2;
        }

        int names(int set) {
            return isSet(set) ? namesBy(signersBy(willingOn(s.h), set(set), Set.of())) : -2;
        }

        int firsts() {
            if (s == null) {
                return -2;
            }
            for (int few = 0; few <= s.folk.size(); few++) {
                for (int set = 0; set < 1 << s.folk.size(); set++) {
                    if (set(set).size() == few && names(set) >= s.law) {
                        return set;
                    }
                }
            }
            return -1;
        }

        int first() {
            int set = firsts();
            return set < 0 ? set : set(set).size();
        }

        int next(int set) {
            if (!isSet(set)) {
                return -2;
            }
            int best = -1;
            for (int f = s.folk.size() - 1; f >= 0; f--) {
                int more = names(set | 1 << f) - names(set);
                if (more > 0 && (best == -1 || more >= names(set | 1 << best) - names(set))) {
                    best = f;
                }
            }
            return best;
        }

        int needed() {
            if (s == null) {
                return -2;
            }
            if (names(0) < s.law) {
                return 0;
            }
            int bits = 0;
            for (int f = 0; f < s.folk.size(); f++) {
                if (namesBy(signersBy(willingOn(s.h), Set.of(), Set.of(f))) < s.law) {
                    bits += 1 << f;
                }
            }
            return bits;
        }

        boolean enoughInPlay(Set<Integer> willing, int won, int barred, int movesLeft, boolean winner, Map<Integer, Boolean> known) {
            Boolean k = known.get(won << 8 | barred);
            if (k != null) {
                return k;
            }
            List<Integer> free = new ArrayList<>();
            for (int f = 0; f < s.folk.size(); f++) {
                if (((won | barred) & 1 << f) == 0) {
                    free.add(f);
                }
            }
            boolean out;
            if (movesLeft == 0 || free.isEmpty()) {
                out = namesBy(signersBy(willing, set(won), set(barred))) >= s.law;
            } else if (winner) {
                out = false;
                for (int f : free) {
                    out |= enoughInPlay(willing, won | 1 << f, barred, movesLeft - 1, false, known);
                }
            } else {
                out = true;
                for (int f : free) {
                    out &= enoughInPlay(willing, won, barred | 1 << f, movesLeft - 1, true, known);
                }
            }
            known.put(won << 8 | barred, out);
            return out;
        }

        int play(int n, int who) {
            if (s == null || n < 0 || n > 4 || who < 0 || who > 1) {
                return -2;
            }
            return enoughInPlay(willingOn(s.h), 0, 0, 2 * n, who == 0, new HashMap<>()) ? 1 : 0;
        }

        int moves(int n, int who) {
            if (s == null || n < 0 || n > 4 || who < 0 || who > 1) {
                return -2;
            }
            if (n == 0 || s.folk.isEmpty()) {
                return -1;
            }
            for (int f = 0; f < s.folk.size(); f++) {
                boolean enough = enoughInPlay(willingOn(s.h), who == 0 ? 1 << f : 0, who == 0 ? 0 : 1 << f, 2 * n - 1, who == 1, new HashMap<>());
                if (enough == (who == 0)) {
                    return f;
                }
            }
            return 0;
        }

        // ---- gatherers: every walk, step by step ----

        /** The fewest steps by which each set of CELLS is come to. */
        Map<Integer, Integer> walks(int cell) {
            Map<Integer, Integer> fewest = new HashMap<>();
            Set<List<Integer>> now = new HashSet<>(Set.of(List.of(cell, 1 << cell)));
            Set<List<Integer>> seen = new HashSet<>(now);
            for (int steps = 0; !now.isEmpty(); steps++) {
                Set<List<Integer>> then = new HashSet<>();
                for (List<Integer> at : now) {
                    fewest.putIfAbsent(at.get(1), steps);
                    for (int to : new int[] {at.get(0) - 1, at.get(0) + 1}) {
                        if (to >= 0 && to < s.h.length) {
                            List<Integer> next = List.of(to, at.get(1) | 1 << to);
                            if (seen.add(next)) {
                                then.add(next);
                            }
                        }
                    }
                }
                now = then;
            }
            return fewest;
        }

        int gathered(int cells) {
            int sum = 0;
            for (int f : willingOn(s.h)) {
                sum += (cells & 1 << s.folk.get(f).cell) != 0 ? s.folk.get(f).names : 0;
            }
            return sum;
        }

        Map<Integer, Integer> gatheredBy(Set<Integer> sets) {
            Map<Integer, Integer> names = new HashMap<>();
            for (int set : sets) {
                names.put(set, gathered(set));
            }
            return names;
        }

        int[] roundWay(int cell, int n) {
            int[] best = {-1, -1, -1};
            Map<Integer, Integer> all = walks(cell);
            for (int set : all.keySet()) {
                int left = Integer.numberOfTrailingZeros(set);
                int steps = all.get(set);
                boolean better = best[0] == -1 || steps < best[0] || steps == best[0] && left < best[1];
                if (better && gathered(set) >= n) {
                    best = new int[] {steps, left, 31 - Integer.numberOfLeadingZeros(set)};
                }
            }
            return best;
        }

        int round(int cell, int n) {
            return !cell(cell) || n < 1 || n > 800 ? -2 : roundWay(cell, n)[0];
        }

        int goes(int cell, int n, int what) {
            return !cell(cell) || n < 1 || n > 800 || what < 0 || what > 1 ? -2 : roundWay(cell, n)[what + 1];
        }

        int two(int cell, int other, int n) {
            if (!cell(cell) || !cell(other) || n < 1 || n > 800) {
                return -2;
            }
            Map<Integer, Integer> one = walks(cell);
            Map<Integer, Integer> two = walks(other);
            Map<Integer, Integer> known = new HashMap<>();
            int best = -1;
            for (int a : one.keySet()) {
                for (int b : two.keySet()) {
                    int steps = Math.max(one.get(a), two.get(b));
                    if ((best == -1 || steps < best) && known.computeIfAbsent(a | b, this::gathered) >= n) {
                        best = steps;
                    }
                }
            }
            return best;
        }

        // ---- water, sight ----

        int flows(int c) {
            if (!cell(c)) {
                return -2;
            }
            int left = c > 0 && s.h[c - 1] < s.h[c] ? s.h[c - 1] : 1000;
            int right = c + 1 < s.h.length && s.h[c + 1] < s.h[c] ? s.h[c + 1] : 1000;
            if (left == 1000 && right == 1000) {
                return c;
            }
            return flows(left <= right ? c - 1 : c + 1);
        }

        int basin(int c) {
            if (!cell(c)) {
                return -2;
            }
            int bits = 0;
            for (int d = 0; d < s.h.length; d++) {
                bits += flows(d) == c ? 1 << d : 0;
            }
            return bits;
        }

        int cliffs() {
            if (s == null) {
                return -2;
            }
            int n = 0;
            for (int c = 0; c + 1 < s.h.length; c++) {
                n += Math.abs(s.h[c] - s.h[c + 1]) > s.rest ? 1 : 0;
            }
            return n;
        }

        int springs() {
            if (s == null) {
                return -2;
            }
            int bits = 0;
            for (int c = 0; c < s.h.length; c++) {
                bits |= 1 << flows(c);
            }
            return bits;
        }

        int sees(int c) {
            if (!cell(c)) {
                return -2;
            }
            int bits = 0;
            for (int d = 0; d < s.h.length; d++) {
                boolean open = true;
                for (int e = Math.min(c, d) + 1; e < Math.max(c, d); e++) {
                    double line = s.h[c] + (s.h[d] - s.h[c]) * (double) (e - c) / (d - c);
                    open &= s.h[e] <= line + 1e-9;
                }
                bits += open ? 1 << d : 0;
            }
            return bits;
        }

        int lookout() {
            if (s == null) {
                return -2;
            }
            int best = 0;
            for (int c = 0; c < s.h.length; c++) {
                if (Integer.bitCount(sees(c)) > Integer.bitCount(sees(best))) {
                    best = c;
                }
            }
            return best;
        }

        // ---- the best feet ----

        int votes(int c, int d) {
            if (!cell(c) || !cell(d) || s.h[c] == 0 || s.h[d] == 0) {
                return -2;
            }
            int bits = 0;
            for (int f = 0; f < s.folk.size(); f++) {
                Folk k = s.folk.get(f);
                bits += gainOf(plus(s.h, c, -1), k) > gainOf(plus(s.h, d, -1), k) ? 1 << f : 0;
            }
            return bits;
        }

        int elected() {
            if (s == null) {
                return -2;
            }
            for (int c = 0; c < s.h.length; c++) {
                boolean fine = s.h[c] > 0;
                for (int d = 0; d < s.h.length && fine; d++) {
                    if (d != c && s.h[d] > 0 && namesBy(set(votes(c, d))) < namesBy(set(votes(d, c)))) {
                        fine = false;
                    }
                }
                if (fine) {
                    return c;
                }
            }
            return -1;
        }

        int best() {
            if (s == null) {
                return -2;
            }
            int best = -1;
            for (int c = 0; c < s.h.length; c++) {
                if (s.h[c] > 0 && (best == -1 || gainsOf(plus(s.h, c, -1)) > gainsOf(plus(s.h, best, -1)))) {
                    best = c;
                }
            }
            return best;
        }

        List<Integer> bestWay(int n) {
            List<List<Integer>> ways = new ArrayList<>(List.of(new ArrayList<>()));
            for (int i = 0; i < n; i++) {
                List<List<Integer>> longer = new ArrayList<>();
                for (List<Integer> w : ways) {
                    for (int c = w.isEmpty() ? 0 : w.get(w.size() - 1); c < s.h.length; c++) {
                        List<Integer> x = new ArrayList<>(w);
                        x.add(c);
                        if (afterWay(x)[c] >= 0) {
                            longer.add(x);
                        }
                    }
                }
                ways = longer;
            }
            List<Integer> best = null;
            for (List<Integer> w : ways) {
                if (best == null || gainsOf(afterWay(w)) > gainsOf(afterWay(best))) {
                    best = w;
                }
            }
            return best;
        }

        int[] afterWay(List<Integer> way) {
            int[] h = s.h.clone();
            way.forEach(c -> h[c]--);
            return h;
        }

        int shape(int n) {
            return s == null || n < 0 || n > 3 || bestWay(n) == null ? -2 : gainsOf(afterWay(bestWay(n)));
        }

        int shaped(int n, int i) {
            if (shape(n) == -2) {
                return -2;
            }
            return i < 0 || i >= n ? -1 : bestWay(n).get(i);
        }

        int spoil() {
            if (s == null) {
                return -2;
            }
            int best = -1;
            for (int c = 0; c < s.h.length; c++) {
                int to = stay(s.h, c);
                if (to >= 0 && (best == -1 || gainsOf(plus(s.h, to, 1)) > gainsOf(plus(s.h, stay(s.h, best), 1)))) {
                    best = c;
                }
            }
            return best;
        }

        // ---- course ----

        List<int[]> courseOf(int n) {
            List<int[]> all = new ArrayList<>(List.of(s.h));
            int[] h = s.h;
            while (all.size() <= 60 && topHeight(h) > 0 && namesBy(signersBy(willingOn(h), Set.of(), Set.of())) >= n) {
                h = taken(h);
                all.add(h);
            }
            return all;
        }

        boolean isLaw(int n) {
            return s != null && n >= 1 && n <= 999;
        }

        int course(int n) {
            return isLaw(n) ? courseOf(n).size() - 1 : -2;
        }

        int ends(int n) {
            return isLaw(n) ? topHeight(courseOf(n).get(course(n))) : -2;
        }

        int left(int n, int f) {
            return isLaw(n) && isFolk(f) ? gainOf(courseOf(n).get(course(n)), s.folk.get(f)) : -1000;
        }

        int law(int k) {
            if (s == null || k < 1 || k > 60) {
                return -2;
            }
            for (int n = Math.min(999, s.folk.stream().mapToInt(Folk::names).sum() + 1); n >= 1; n--) {
                if (course(n) >= k) {
                    return n;
                }
            }
            return -1;
        }

        int raisers() {
            if (s == null) {
                return -2;
            }
            int bits = 0;
            for (int f = 0; f < s.folk.size(); f++) {
                bits += gainOf(plus(s.h, top(), 1), s.folk.get(f)) > gain(f) ? 1 << f : 0;
            }
            return bits;
        }

        // ---- old heights ----

        int oldShade(int cell, int hour, int k) {
            return cell(cell) && hour(hour) && inShade(plus(s.h, top(), k), cell, hour) ? 1 : 0;
        }

        int refusal(int slot, int each) {
            if (slot < 0 || slot > 3 || s == null) {
                return -2;
            }
            if (rows[slot] == null) {
                return -6;
            }
            if (rows[slot].length % each != 0) {
                return -2;
            }
            for (int i = 0; i < rows[slot].length; i += each) {
                long a = rows[slot][i];
                long b = rows[slot][i + 1];
                if (each == 3) {
                    long c = rows[slot][i + 2];
                    if (a < 0 || a >= s.h.length || b == 0 || b < -9 || b > 9 || c != 0 && c != 1) {
                        return -2;
                    }
                } else if (a < 0 || a >= s.folk.size() || b < 0 || b > 999) {
                    return -2;
                }
            }
            return 0;
        }

        boolean holds(int slot, int k, int without) {
            for (int r = 0; 3 * r < rows[slot].length; r++) {
                long[] row = rows[slot];
                if (r != without && oldShade((int) row[3 * r], (int) row[3 * r + 1], k) != row[3 * r + 2]) {
                    return false;
                }
            }
            return true;
        }

        int old(int slot) {
            if (refusal(slot, 3) != 0) {
                return refusal(slot, 3);
            }
            int bits = 0;
            for (int k = 0; k <= 20; k++) {
                bits += holds(slot, k, -1) ? 1 << k : 0;
            }
            return bits;
        }

        /** The HOUR's number, and how many are left. */
        int[] measured(int slot, int cell) {
            int now = Integer.bitCount(old(slot));
            int[] best = {0, now};
            for (int number = 18; number >= 1; number--) {
                int hour = number <= 9 ? number : 9 - number;
                int[] left = new int[2];
                for (int k = 0; k <= 20; k++) {
                    if ((old(slot) & 1 << k) != 0) {
                        left[oldShade(cell, hour, k)]++;
                    }
                }
                int worst = Math.max(left[0], left[1]);
                if (worst < now && worst <= best[1]) {
                    best = new int[] {number, worst};
                }
            }
            return best;
        }

        int ask(int slot, int cell) {
            int refused = refusal(slot, 3);
            return !cell(cell) ? -2 : refused != 0 ? refused : measured(slot, cell)[0];
        }

        int leaves(int slot, int cell) {
            int refused = refusal(slot, 3);
            return !cell(cell) ? -2 : refused != 0 ? refused : measured(slot, cell)[1];
        }

        int doubts(int slot) {
            if (refusal(slot, 3) != 0) {
                return refusal(slot, 3);
            }
            int n = 0;
            for (int r = 0; 3 * r < rows[slot].length; r++) {
                boolean some = false;
                for (int k = 0; k <= 20; k++) {
                    some |= holds(slot, k, r);
                }
                n += some ? 1 : 0;
            }
            return n;
        }

        // ---- names struck ----

        int stands(int slot) {
            if (refusal(slot, 2) != 0) {
                return refusal(slot, 2);
            }
            Set<List<Long>> once = new HashSet<>();
            for (int i = 0; i < rows[slot].length; i += 2) {
                if (rows[slot][i + 1] < s.folk.get((int) rows[slot][i]).names) {
                    once.add(List.of(rows[slot][i], rows[slot][i + 1]));
                }
            }
            return once.size();
        }

        int struck(int slot, int what) {
            if (what < 0 || what > 1 || refusal(slot, 2) == -2) {
                return -2;
            }
            if (refusal(slot, 2) == -6) {
                return -6;
            }
            Set<List<Long>> once = new HashSet<>();
            for (int i = 0; i < rows[slot].length; i += 2) {
                once.add(List.of(rows[slot][i], rows[slot][i + 1]));
            }
            int twice = rows[slot].length / 2 - once.size();
            return what == 0 ? twice : once.size() - stands(slot);
        }

        // ---- months ----

        /** Heights behind each MONTH, and FEET taken. */
        Object[] months(long seed, int n) {
            int[] h = s.h;
            int feet = 0;
            long x = seed;
            for (int i = 0; i < n && !s.folk.isEmpty(); i++) {
                x = Math.floorMod(1103515245L * x + 12345L, 2147483648L);
                int won = (int) (x / 65536) % s.folk.size();
                boolean enough = namesBy(signersBy(willingOn(h), Set.of(won), Set.of())) >= s.law;
                if (enough && topHeight(h) > 0) {
                    feet++;
                    h = taken(h);
                    int to = stay(h, s.heap);
                    h = to < 0 ? h : plus(h, to, 1);
                }
            }
            return new Object[] {feet, h};
        }

        int drawn(int seed, int n, int what) {
            if (s == null || seed < 0 || seed > 2000000000 || n < 0 || n > 40 || what < 0 || what > 2) {
                return -2;
            }
            Object[] then = months(seed, n);
            return what == 0 ? (int) then[0] : what == 1 ? topHeight((int[]) then[1]) : gainsOf((int[]) then[1]);
        }

        int luck(int seed, int m, int n) {
            if (s == null || seed < 0 || seed > 2000000000 || m < 1 || m > 20 || n < 0 || n > 40) {
                return -2;
            }
            int lucky = 0;
            for (int i = 0; i < m; i++) {
                lucky += (int) months(seed + (long) i, n)[0] > 0 ? 1 : 0;
            }
            return lucky;
        }

        // ---- told anew ----

        int tell(int n) {
            if (!isLaw(n)) {
                return -2;
            }
            if (!s.before.isEmpty()) {
                return -5;
            }
            int was = s.law;
            s.law = n;
            return was;
        }

        int likes(int f, int what, int n) {
            if (!isFolk(f) || what < 0 || what > 2 || n < 0 || n > 9) {
                return -2;
            }
            if (!s.before.isEmpty()) {
                return -5;
            }
            Folk k = s.folk.get(f);
            s.folk.set(f, new Folk(k.cell, k.names, what == 0 ? n : k.sun, what == 1 ? n : k.snow, what == 2 ? n : k.view, k.talk, k.friends));
            return what == 0 ? k.sun : what == 1 ? k.snow : k.view;
        }

        int count(int what) {
            if (what == 7) {
                return tape.length();
            }
            if (what == 9) {
                return (int) Arrays.stream(rows).filter(r -> r != null).count();
            }
            if (what < 0 || what > 9) {
                return -1;
            }
            return s == null ? 0 : new int[] {s.h.length, s.folk.size(), s.snow, s.rest, s.law, s.heap, s.lines, 0, s.before.size()}[what];
        }

        int image(int k) {
            if (k < 0 || k > 2) {
                return -2;
            }
            images[k] = s == null ? null : s.copy();
            imaged[k] = true;
            return 0;
        }

        int back(int k) {
            if (k < 0 || k > 2) {
                return -2;
            }
            if (!imaged[k]) {
                return -6;
            }
            s = images[k] == null ? null : images[k].copy();
            return 0;
        }

        // ---- slots ----

        int row(int slot, int width, int n) {
            if (slot < 0 || slot > 3 || width < 0 || width > 3 || n > 60) {
                return -2;
            }
            if (n < 0) {
                return -3;
            }
            rows[slot] = new long[n];
            widths[slot] = width;
            return 0;
        }

        int write(int slot, int i, long v) {
            if (slot < 0 || slot > 3) {
                return -2;
            }
            if (rows[slot] == null) {
                return -6;
            }
            if (i < 0 || i >= rows[slot].length) {
                return -7;
            }
            int cutBits = 64 - (8 << widths[slot]);
            rows[slot][i] = v << cutBits >> cutBits;
            return 0;
        }

        int paste(int slot, int i, int to, int k, int n) {
            if (slot < 0 || slot > 3 || to < 0 || to > 3) {
                return -2;
            }
            if (rows[slot] == null || rows[to] == null) {
                return -6;
            }
            if (widths[slot] != widths[to]) {
                return -8;
            }
            if (i < 0 || k < 0 || n < 0 || (long) i + n > rows[slot].length || (long) k + n > rows[to].length) {
                return -7;
            }
            long[] were = rows[slot].clone();
            for (int j = 0; j < n; j++) {
                rows[to][k + j] = were[i + j];
            }
            return 0;
        }
    }
}
