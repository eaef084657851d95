import java.lang.reflect.InvocationTargetException;
import java.lang.reflect.Method;
import java.nio.charset.StandardCharsets;
import java.util.ArrayList;
import java.util.Arrays;
import java.util.HashMap;
import java.util.List;
import java.util.Map;
import java.util.Set;
import java.util.TreeMap;
import java.util.TreeSet;
import java.util.regex.Matcher;
import java.util.regex.Pattern;

/**
 * Each sentence of the document that names a boundary (too small, too large, empty, full, a wrap-around, a refused
 * call), by a run of calls of its own on a new object. The texts' own boundaries are in FaultTest.
 *
 * <p>How a run is written: "on NAME" feeds a text of the table below and mounts it, "on [..]" a text that is written
 * out, "text [..]" feeds one alone; other rows are calls with the answer that is due, several with | between them,
 * "x9" behind a call makes it nine times. A call that only asks, or that is refused, must change nothing: a second
 * object gets the run without such calls, and must be the same in the end.
 */
public final class BoundaryTest {
    private static final Set<String> ACTORS = Set.of("feed", "end", "mount", "take", "heap", "undo", "anew", "tell", "likes", "image", "back",
        "row", "write", "paste");
    private static final int MOST_CALLS = 512;

    private static final Map<String, String> TEXTS = new HashMap<>();

    static {
        // Heights 3 9 4 0; GAIN 42, 9, 17; FOLK 0 and 2 are WILLING, 1 is brought by talk.
        TEXTS.put("RIDGE", "mount 3 9 4 0 snow 4 rest 2 names 20 first;folk at 2 names 12 sun 3 snow 0 view 0;"
            + "folk at 3 names 9 sun 0 snow 0 view 1 talk 1 with 0;folk at 0 names 5 sun 1 snow 2 view 0;heap 3;");
        // As few CELLS as can be, no FOLK.
        TEXTS.put("THREE", "mount 1 2 3 snow 2 rest 1 names 5 first;");
        // As many CELLS and FOLK as can be, as high and as fond of all as can be.
        TEXTS.put("FULL", "mount 40 40 40 40 40 40 40 40 40 40 snow 40 rest 40 names 999 last;"
            + "folk at 9 names 99 sun 9 snow 9 view 9;".repeat(8) + "heap 9;");
        TEXTS.put("NOUGHTS", "mount 0 0 0 snow 1 rest 1 names 1 first;folk at 1 names 5 sun 1 snow 1 view 1;");
        TEXTS.put("HIGH", "mount 40 40 40 snow 40 rest 40 names 1 first;folk at 0 names 9 sun 0 snow 0 view 1;");
        // FOLK 0 is WILLING until TOP is 1.
        TEXTS.put("PEAK", "mount 0 3 0 snow 40 rest 1 names 10 first;folk at 0 names 10 sun 1 snow 0 view 0;");
        // Nobody is WILLING; FOLK 0 has no talk, each other one hears the one ahead of it.
        StringBuilder chain = new StringBuilder("mount 0 3 0 snow 40 rest 1 names 8 first;folk at 2 names 1 sun 0 snow 0 view 1;");
        for (int f = 1; f < 8; f++) {
            chain.append("folk at 1 names 1 sun 0 snow 0 view 0 talk 1 with ").append(f - 1).append(';');
        }
        TEXTS.put("CHAIN", chain.toString());
        // WILLING: at 0, 2, 6 and 8, with 5, 3, 4 and 6 names; at 5 there is one who isn't.
        TEXTS.put("WALK", "mount 0 0 0 0 13 0 0 0 0 snow 40 rest 40 names 1 first;folk at 0 names 5 sun 1 snow 0 view 0;"
            + "folk at 2 names 3 sun 1 snow 0 view 0;folk at 6 names 4 sun 1 snow 0 view 0;folk at 8 names 6 sun 1 snow 0 view 0;"
            + "folk at 5 names 50 sun 0 snow 0 view 9;");
        // More than 68 FEET go by a law of one name.
        StringBuilder far = new StringBuilder("mount 11 10 27 18 10 38 1 19 9 19 snow 40 rest 40 names 1 last;");
        for (int cell : new int[] {6, 7, 4, 3, 0, 8, 5, 1}) {
            far.append("folk at ").append(cell).append(" names 1 sun 1 snow 0 view 0;");
        }
        TEXTS.put("LONG", far.toString());
        // Nobody is WILLING; it is ENOUGH by FOLK 0 alone.
        TEXTS.put("MONTHS", "mount 1 1 3 snow 40 rest 40 names 10 first;"
            + "folk at 0 names 10 sun 0 snow 0 view 1;folk at 0 names 5 sun 0 snow 0 view 0;");
        // TOP shades CELL 3 in HOUR 9, if it is 20 higher.
        TEXTS.put("SLOPE", "mount 8 0 0 0 snow 40 rest 40 names 1 first;folk at 1 names 3 sun 1 snow 0 view 0;");
    }

    /** Texts that stand for others in a row, so that it stays short. */
    private static final Map<String, String> SHORT = Map.of("MIN", "-2147483648", "MAX", "2147483647", "LMIN", "-9223372036854775808",
        "LMAX", "9223372036854775807", "BLANK", "538976288");

    private record Call(String name, Object[] given, Integer due) {
        @Override
        public String toString() {
            String numbers = Arrays.toString(given);
            return name + "(" + numbers.substring(1, numbers.length() - 1) + ")";
        }
    }

    private static final Map<String, Method> METHODS = new HashMap<>();
    private static final Map<Integer, Integer> CASES = new TreeMap<>();
    private static int wrong = 0;
    private static int asked = 0;

    static {
        for (Method m : FootLower.class.getDeclaredMethods()) {
            METHODS.put(m.getName(), m);
        }
    }

    // ---- how a run is read and made ----

    private static void say(int promise, String sentence, String what) {
        wrong++;
        System.out.println("promise " + promise + ", \"" + sentence + "\": " + what);
    }

    /** One case: a sentence of a promise, and the run of calls that shows it. */
    private static void holds(int promise, String sentence, String run) {
        CASES.merge(promise, 1, Integer::sum);
        List<Call> calls = read(run);
        FootLower x = new FootLower();
        List<Call> acts = new ArrayList<>();
        boolean looked = false;
        for (Call c : calls) {
            int got = answer(x, c);
            if (c.due != null) {
                asked++;
                looked = true;
                if (got != c.due) {
                    say(promise, sentence, c + " answered " + got + ", due is " + c.due);
                }
            }
            boolean refused = got < 0 && !c.name.equals("mount");
            if (ACTORS.contains(c.name) && !refused) {
                acts.add(c);
            }
        }
        if (!looked) {
            say(promise, sentence, "no answer of this run is looked at");
        }
        FootLower y = new FootLower();
        for (Call c : acts) {
            answer(y, c);
        }
        List<String> first = new ArrayList<>();
        int used = calls.size() + lookAt(x, first);
        List<String> second = new ArrayList<>();
        lookAt(y, second);
        if (used > MOST_CALLS) {
            say(promise, sentence, used + " calls on one object are too many");
        }
        for (int i = 0; i < Math.max(first.size(), second.size()); i++) {
            String has = i < first.size() ? first.get(i) : "nothing";
            String due = i < second.size() ? second.get(i) : "nothing";
            if (!has.equals(due)) {
                say(promise, sentence, "a call that should change nothing did: in the end " + has + ", due is " + due);
                return;
            }
        }
    }

    private static List<Call> read(String run) {
        List<Call> calls = new ArrayList<>();
        for (String line : run.split("\n")) {
            String row = line.trim();
            Matcher text = Pattern.compile("(on|text) (?:\\[(.*)\\]|(\\w+))").matcher(row);
            if (text.matches()) {
                String told = text.group(3) != null ? TEXTS.get(text.group(3)) : text.group(2).replace("\\n", "\n");
                feed(calls, told);
                if (text.group(1).equals("on")) {
                    calls.add(new Call("mount", new Object[0], told.replaceAll("[^;]", "").length()));
                }
            } else if (!row.isEmpty()) {
                for (String part : row.split(" \\| ")) {
                    readCall(calls, part.trim());
                }
            }
        }
        return calls;
    }

    /** A TAPE that is not empty is told behind what it has: the run must be at a number of bytes that it knows. */
    private static void feed(List<Call> calls, String text) {
        int ahead = 0;
        for (Call c : calls) {
            if (c.name.equals("feed") && ahead + 20 <= 900) {
                ahead += 20;
            } else if (c.name.equals("end") && (int) c.given[0] >= 0 && (int) c.given[0] <= ahead) {
                ahead = (int) c.given[0];
            } else if (c.name.equals("mount")) {
                ahead = 0;
            }
        }
        byte[] bytes = text.getBytes(StandardCharsets.ISO_8859_1);
        byte[] padded = Arrays.copyOf(bytes, (bytes.length + 19) / 20 * 20);
        for (int i = 0; i < padded.length; i += 20) {
            Object[] five = new Object[5];
            for (int k = 0; k < 5; k++) {
                int at = i + 4 * k;
                five[k] = padded[at] << 24 | (padded[at + 1] & 255) << 16 | (padded[at + 2] & 255) << 8 | padded[at + 3] & 255;
            }
            calls.add(new Call("feed", five, null));
        }
        calls.add(new Call("end", new Object[] {ahead + bytes.length}, ahead + bytes.length));
    }

    private static void readCall(List<Call> calls, String part) {
        Matcher m = Pattern.compile("(\\w+)\\((.*)\\)(?: x(\\d+))?(?: = (-?\\d+))?").matcher(part);
        if (!m.matches() || !METHODS.containsKey(m.group(1))) {
            throw new IllegalStateException("no call: " + part);
        }
        Class<?>[] types = METHODS.get(m.group(1)).getParameterTypes();
        String[] numbers = m.group(2).isEmpty() ? new String[0] : m.group(2).split(", ");
        if (numbers.length != types.length) {
            throw new IllegalStateException("not so many numbers: " + part);
        }
        Object[] given = new Object[numbers.length];
        for (int i = 0; i < given.length; i++) {
            long number = Long.decode(SHORT.getOrDefault(numbers[i], numbers[i]));
            given[i] = types[i] == long.class ? (Object) number : (Object) (int) number;
        }
        Integer due = m.group(4) == null ? null : Integer.valueOf(m.group(4));
        int times = m.group(3) == null ? 1 : Integer.parseInt(m.group(3));
        for (int i = 0; i < times; i++) {
            calls.add(new Call(m.group(1), given, due));
        }
    }

    private static int answer(FootLower x, Call c) {
        try {
            return (int) METHODS.get(c.name).invoke(x, c.given);
        } catch (InvocationTargetException thrown) {
            throw new IllegalStateException(c + " threw", thrown.getCause());
        } catch (IllegalAccessException hidden) {
            throw new IllegalStateException(c + " can't be called", hidden);
        }
    }

    /** All that calls can tell of an object, at the price of what it has; how many calls that took. */
    private static int lookAt(FootLower x, List<String> seen) {
        List<Call> calls = new ArrayList<>();
        for (int what = 0; what < 10; what++) {
            readCall(calls, "count(" + what + ")");
            readCall(calls, "height(" + what + ")");
        }
        for (int f = 0; f < 8; f++) {
            for (int what = 0; what < 7; what++) {
                readCall(calls, "folk(" + f + ", " + what + ")");
            }
        }
        for (String ask : new String[] {"fault(0)", "fault(1)", "top()", "snow()", "cliffs()", "gains()", "willing()"}) {
            readCall(calls, ask);
        }
        for (int slot = 0; slot < 4; slot++) {
            for (String ask : new String[] {"old(%d)", "doubts(%d)", "stands(%d)", "struck(%d, 0)", "struck(%d, 1)", "ask(%d, 0)"}) {
                readCall(calls, String.format(ask, slot));
            }
        }
        int acts = x.count(8);
        for (int i = 0; i < acts; i++) {
            readCall(calls, "undo()");
            readCall(calls, "gains()");
        }
        for (int k = 0; k < 3; k++) {
            for (String ask : new String[] {"back(" + k + ")", "count(0)", "count(1)", "count(4)", "count(8)", "gains()", "anew()", "gains()"}) {
                readCall(calls, ask);
            }
        }
        for (String ask : new String[] {"mount()", "fault(0)", "fault(1)", "count(0)", "count(1)", "gains()"}) {
            readCall(calls, ask);
        }
        for (Call c : calls) {
            seen.add(c + " = " + answer(x, c));
        }
        return calls.size() + 1;
    }

    public static void main(String[] args) {
        newObject();
        tape();
        mounts();
        facts();
        light();
        gains();
        acts();
        heaps();
        actsTakenBack();
        signers();
        whomToWin();
        plays();
        rounds();
        water();
        sight();
        votes();
        shapes();
        courses();
        oldHeights();
        names();
        months();
        toldAnew();
        images();
        rows();
        pastes();
        Set<Integer> untold = new TreeSet<>();
        for (int promise = 1; promise <= 66; promise++) {
            if (!CASES.containsKey(promise)) {
                untold.add(promise);
            }
        }
        if (!untold.isEmpty()) {
            say(0, "1 to 66", "no case for " + untold);
        }
        int cases = CASES.values().stream().mapToInt(Integer::intValue).sum();
        System.out.println(wrong == 0 ? asked + " answers in " + cases + " cases are as due" : wrong + " things are not as due");
        if (wrong != 0) {
            System.exit(1);
        }
    }

    // ---- promises 1 to 5 ----

    private static void newObject() {
        holds(1, "No MOUNTAIN.", """
            count(0) = 0 | count(1) = 0 | count(2) = 0 | count(3) = 0 | count(4) = 0 | count(5) = 0 | count(6) = 0 | count(7) = 0
            count(8) = 0 | count(9) = 0 | count(10) = -1 | count(-1) = -1
            fault(0) = 0 | fault(1) = -1 | folk(0, 0) = -2 | height(0) = -2 | shade(0, 1) = -2 | light(0) = -2 | dark(1) = -2
            snow() = -2 | top() = -2 | gain(0) = -1000 | hopes(0, 0) = -1000 | wishes(0) = -2 | gains() = -2
            take() = -2 | heap(0) = -2 | slides(0) = -2 | undo() = -2 | anew() = -2
            willing() = -2 | signers(0) = -2 | names(0) = -2 | first() = -2 | firsts() = -2 | next(0) = -2 | needed() = -2
            play(0, 0) = -2 | play(1, 1) = -2 | moves(0, 0) = -2 | moves(1, 1) = -2
            round(0, 1) = -2 | goes(0, 1, 0) = -2 | two(0, 0, 1) = -2
            flows(0) = -2 | basin(0) = -2 | cliffs() = -2 | springs() = -2 | sees(0) = -2 | lookout() = -2
            votes(0, 1) = -2 | elected() = -2 | best() = -2 | shape(0) = -2 | shaped(0, 0) = -2 | shaped(1, 0) = -2 | spoil() = -2
            course(1) = -2 | ends(1) = -2 | left(1, 0) = -1000 | law(1) = -2 | raisers() = -2
            old(0) = -2 | ask(0, 0) = -2 | leaves(0, 0) = -2 | doubts(0) = -2 | stands(0) = -2 | struck(0, 0) = -2
            drawn(0, 0, 0) = -2 | luck(0, 1, 0) = -2 | tell(1) = -2 | likes(0, 0, 0) = -2
            back(0) = -6 | back(1) = -6 | back(2) = -6 | write(0, 0, 0) = -6 | paste(0, 0, 1, 0, 0) = -6
            end(0) = 0 | end(1) = -1 | mount() = 0
            """);
    }

    private static void tape() {
        holds(2, "four of each number, the highest first", """
            feed(0x6d6f756e, 0x74203120, 0x32203320, 0x736e6f77, 0x20312072) = 20
            feed(0x65737420, 0x31206e61, 0x6d657320, 0x31206669, 0x7273743b) = 40
            mount() = 1 | height(0) = 1 | height(2) = 3
            feed(0x41202020, BLANK, BLANK, BLANK, BLANK) = 20 | mount() = -4 | fault(1) = 0
            feed(0x20202041, BLANK, BLANK, BLANK, BLANK) = 20 | mount() = -4 | fault(1) = 3
            feed(BLANK, 0x41202020, BLANK, BLANK, BLANK) = 20 | mount() = -4 | fault(1) = 4
            feed(BLANK, BLANK, BLANK, BLANK, 0x20202041) = 20 | mount() = -4 | fault(1) = 19
            feed(MIN, BLANK, BLANK, BLANK, BLANK) = 20 | mount() = -4 | fault(1) = 0
            feed(BLANK, -1, BLANK, BLANK, BLANK) = 20 | mount() = -4 | fault(1) = 4
            feed(BLANK, 0x202020ff, BLANK, BLANK, BLANK) = 20 | mount() = -4 | fault(1) = 7
            """);
        holds(2, "Twenty bytes come behind the TAPE .. : how many it has", """
            feed(BLANK, BLANK, BLANK, BLANK, BLANK) = 20
            feed(BLANK, BLANK, BLANK, BLANK, BLANK) = 40
            end(33) = 33
            feed(0, BLANK, BLANK, BLANK, BLANK) = 53
            count(7) = 53
            mount() = -4 | fault(1) = 33
            """);
        holds(2, "NONE, and none come, if it would have more than 900", """
            feed(BLANK, BLANK, BLANK, BLANK, BLANK) x44
            count(7) = 880
            feed(BLANK, BLANK, BLANK, BLANK, BLANK) = 900
            feed(-1, -1, -1, -1, -1) = -1
            count(7) = 900
            end(899) = 899 | feed(-1, -1, -1, -1, -1) = -1 | count(7) = 899
            end(881) = 881 | feed(-1, -1, -1, -1, -1) = -1 | count(7) = 881
            mount() = 0
            feed(BLANK, BLANK, BLANK, BLANK, BLANK) = 20
            """);
        holds(2, "(900 is not more than 900)", """
            feed(BLANK, BLANK, BLANK, BLANK, BLANK) x45
            end(880) = 880
            feed(BLANK, BLANK, BLANK, BLANK, 0x20202000) = 900
            mount() = -4 | fault(0) = 1 | fault(1) = 899
            """);
        holds(3, "The TAPE has its first n bytes alone: n", """
            feed(BLANK, BLANK, BLANK, BLANK, BLANK) = 20
            feed(-1, -1, -1, -1, -1) = 40
            end(40) = 40 | count(7) = 40
            end(20) = 20 | count(7) = 20
            mount() = 0
            """);
        holds(3, "(what is fed then comes behind the n-th)", """
            text [mount 1 2 3 snow 1 rest 1 names 1 firstly;]
            end(39) = 39
            text [;]
            mount() = 1
            """);
        holds(3, "(alone: of a word or a number that is cut, nothing is left behind n)", """
            text [mount 1 2 3 snow 1 rest 1 names 1 first;]
            end(38) = 38 | mount() = -4 | fault(0) = 1 | fault(1) = 34
            text [mount 1 2 41]
            end(11) = 11 | mount() = -4 | fault(0) = 1 | fault(1) = 11
            text [mount]
            end(4) = 4 | mount() = -4 | fault(0) = 1 | fault(1) = 0
            """);
        holds(3, "NONE, and nothing happens, if it has not so many", """
            end(1) = -1 | end(MAX) = -1 | end(0) = 0
            feed(0, 0, 0, 0, 0) = 20
            end(21) = -1 | end(900) = -1 | end(MAX) = -1 | count(7) = 20
            end(20) = 20 | end(19) = 19 | end(20) = -1 | count(7) = 19
            end(0) = 0 | end(1) = -1 | count(7) = 0
            """);
        holds(3, "or n is below 0", """
            end(-1) = -1 | end(MIN) = -1
            feed(0, 0, 0, 0, 0) = 20
            end(-1) = -1 | end(MIN) = -1 | end(-20) = -1 | count(7) = 20
            """);
    }

    private static void mounts() {
        holds(4, "The TAPE (empty then) is the MOUNTAIN", """
            on THREE
            count(7) = 0 | end(1) = -1 | feed(BLANK, BLANK, BLANK, BLANK, BLANK) = 20
            """);
        holds(4, "(in place of another)", """
            on FULL
            on THREE
            count(0) = 3 | count(1) = 0 | count(2) = 2 | count(3) = 1 | count(4) = 5 | count(5) = 0 | count(6) = 1
            height(2) = 3 | height(3) = -2 | folk(0, 0) = -2 | gains() = 0 | top() = 2
            on FULL
            count(0) = 10 | count(1) = 8 | count(5) = 9 | count(6) = 10 | height(9) = 40
            """);
        holds(4, "(FRIENDS, talk and SIDE of the other are gone)", """
            on [mount 5 5 5 snow 1 rest 1 names 1 last;folk at 0 names 1 sun 1 snow 1 view 1;folk at 0 names 1 sun 1 snow 1 view 1 talk 1 with 0;]
            top() = 2 | folk(0, 6) = 2 | folk(1, 5) = 1
            on [mount 5 5 5 snow 1 rest 1 names 1 first;folk at 0 names 1 sun 1 snow 1 view 1;folk at 0 names 1 sun 1 snow 1 view 1;]
            top() = 0 | folk(0, 6) = 0 | folk(1, 6) = 0 | folk(1, 5) = 0 | count(5) = 0
            """);
        holds(4, "nothing done", """
            on THREE
            take() = 2 | heap(0) = 0 | count(8) = 2
            on THREE
            count(8) = 0 | undo() = -5 | anew() = 0 | height(0) = 1 | height(2) = 3
            """);
        holds(4, "how many LINES", """
            on THREE
            count(6) = 1
            on [mount 1 2 3 snow 2 rest 1 names 5 first; heap 1; heap 2; heap 0; folk at 0 names 1 sun 0 snow 0 view 0;]
            count(6) = 5
            """);
        holds(4, "(0: there is none then)", """
            on RIDGE
            take() = 1
            mount() = 0
            top() = -2 | height(0) = -2 | gain(0) = -1000 | undo() = -2
            count(0) = 0 | count(1) = 0 | count(2) = 0 | count(3) = 0 | count(4) = 0 | count(5) = 0 | count(6) = 0 | count(8) = 0
            fault(0) = 0 | fault(1) = -1
            """);
        holds(4, "(0: there is none then; of blanks alone)", """
            on RIDGE
            text [ \\n  \\n]
            mount() = 0
            top() = -2 | count(0) = 0 | count(7) = 0
            """);
        holds(4, "-4: a FAULT (all stays): MOUNTAIN, acts, IMAGES, SLOTS", """
            on RIDGE
            tell(7) = 20 | likes(0, 0, 9) = 3 | take() = 1 | image(1) = 0 | heap(0) = 0 | row(2, 1, 3) = 0
            text [mount 7 7 7 7 7 snow 1 rest 1 names 1 last;folk at 4 names 1 sun 1 snow 1 view 1;heap 4;x]
            mount() = -4
            count(0) = 4 | count(1) = 3 | count(2) = 4 | count(3) = 2 | count(4) = 7 | count(5) = 3 | count(6) = 5 | count(8) = 2 | count(9) = 1
            height(0) = 4 | height(1) = 8 | height(2) = 4 | height(3) = 0 | folk(0, 2) = 9 | folk(1, 6) = 1
            undo() = 1 | height(0) = 3 | undo() = 0 | height(1) = 9 | back(1) = 0 | count(8) = 1 | back(0) = -6 | write(2, 2, 1) = 0
            """);
        holds(4, "-4: a FAULT (all stays): no MOUNTAIN stays none", """
            text [mount 1 2 3 snow 1 rest 1 names 1 first]
            mount() = -4
            top() = -2 | count(0) = 0 | count(6) = 0 | height(0) = -2
            """);
        holds(4, "(empty then): the TAPE is so behind a FAULT, too", """
            text [x]
            mount() = -4 | count(7) = 0 | mount() = 0
            on THREE
            text [mount 1]
            mount() = -4 | count(7) = 0 | end(1) = -1 | count(0) = 3
            """);
        holds(5, "what 0: its FAULT, 0 without, 1: its place (NONE without)", """
            text [mount 41]
            mount() = -4 | fault(0) = 2 | fault(1) = 6
            on THREE
            fault(0) = 0 | fault(1) = -1
            mount() = 0 | fault(0) = 0 | fault(1) = -1
            """);
        holds(5, "Of the latest mount()", """
            text [mount 41]
            mount() = -4
            text [  ;]
            mount() = -4 | fault(0) = 1 | fault(1) = 2
            text [mount 1 1 1 1 1 1 1 1 1 1 1]
            count(7) = 27 | fault(0) = 1 | fault(1) = 2
            mount() = -4 | fault(0) = 3 | fault(1) = 26
            """);
        holds(5, "NONE for another what", """
            fault(2) = -1 | fault(-1) = -1 | fault(MIN) = -1 | fault(MAX) = -1
            text [mount 41]
            mount() = -4 | fault(2) = -1 | fault(-1) = -1 | fault(MIN) = -1 | fault(MAX) = -1 | fault(3) = -1
            """);
        holds(5, "and ahead of any (what 1)", """
            fault(1) = -1 | fault(0) = 0
            text [mount 41]
            fault(1) = -1 | fault(0) = 0
            """);
    }

    // ---- promises 6 to 12 ----

    private static void facts() {
        holds(6, "what 0: its CELL, 1: names, 2: sun, 3: snow, 4: view, 5: talk (0 without), 6: its FRIENDS, as bits", """
            on [mount 1 2 3 snow 2 rest 1 names 5 first;folk at 2 names 99 sun 9 snow 8 view 7;folk at 0 names 1 sun 0 snow 0 view 0 talk 7 with 0;]
            folk(0, 0) = 2 | folk(0, 1) = 99 | folk(0, 2) = 9 | folk(0, 3) = 8 | folk(0, 4) = 7 | folk(0, 5) = 0 | folk(0, 6) = 2
            folk(1, 0) = 0 | folk(1, 1) = 1 | folk(1, 2) = 0 | folk(1, 3) = 0 | folk(1, 4) = 0 | folk(1, 5) = 7 | folk(1, 6) = 1
            """);
        holds(6, "FRIENDS of each other, all of them", """
            on CHAIN
            folk(0, 6) = 2 | folk(1, 6) = 5 | folk(2, 6) = 10 | folk(6, 6) = 160 | folk(7, 6) = 64
            on [mount 1 2 3 snow 2 rest 1 names 5 first;%sfolk at 0 names 1 sun 0 snow 0 view 0 talk 7 with 6 5 4 3 2 1 0;]
            folk(7, 6) = 127 | folk(0, 6) = 128 | folk(6, 6) = 128 | folk(7, 5) = 7
            """.replace("%s", "folk at 0 names 1 sun 0 snow 0 view 0;".repeat(7)));
        holds(6, "-2: there are none such", """
            on RIDGE
            folk(-1, 0) = -2 | folk(3, 0) = -2 | folk(8, 0) = -2 | folk(MIN, 0) = -2 | folk(MAX, 0) = -2
            folk(0, -1) = -2 | folk(0, 7) = -2 | folk(0, MIN) = -2 | folk(0, MAX) = -2 | folk(2, 6) = 0 | folk(3, 7) = -2
            on FULL
            folk(7, 0) = 9 | folk(8, 0) = -2
            on THREE
            folk(0, 0) = -2
            """);
        holds(7, "The height of a CELL now", """
            on [mount 0 40 1 snow 2 rest 40 names 5 first;]
            height(0) = 0 | height(1) = 40 | height(2) = 1
            take() = 1 | height(1) = 39 | heap(2) = 2 | height(2) = 2 | undo() = 1 | height(2) = 1
            """);
        holds(7, "-2: there is none such", """
            on THREE
            height(-1) = -2 | height(3) = -2 | height(MIN) = -2 | height(MAX) = -2 | height(2) = 3
            on FULL
            height(9) = 40 | height(10) = -2
            """);
    }

    private static void light() {
        holds(8, "higher than it by more than the HOUR times how many CELLS it is away", """
            on [mount 9 0 0 snow 0 rest 40 names 1 first;]
            shade(1, 8) = 1 | shade(1, 9) = 0 | shade(2, 4) = 1 | shade(2, 5) = 0 | shade(0, 1) = 0
            on [mount 10 0 0 snow 0 rest 40 names 1 first;]
            shade(1, 9) = 1 | shade(2, 4) = 1 | shade(2, 5) = 0
            on [mount 5 4 3 snow 0 rest 40 names 1 first;]
            shade(1, 1) = 0 | shade(2, 1) = 0
            on [mount 5 5 5 snow 0 rest 40 names 1 first;]
            shade(0, 1) = 0 | shade(1, 1) = 0 | shade(2, 1) = 0 | shade(0, -1) = 0 | shade(1, -1) = 0 | shade(2, -1) = 0
            """);
        holds(8, "some CELL of a lesser number .. ; below 0: some CELL of a greater number", """
            on [mount 40 0 0 0 0 0 0 0 0 0 snow 0 rest 40 names 1 first;]
            shade(9, 4) = 1 | shade(9, 5) = 0 | shade(9, -1) = 0 | shade(0, 1) = 0 | shade(0, -1) = 0 | shade(4, 9) = 1 | shade(5, 8) = 0
            on [mount 0 0 0 0 0 0 0 0 0 40 snow 0 rest 40 names 1 first;]
            shade(0, -4) = 1 | shade(0, -5) = 0 | shade(0, 1) = 0 | shade(9, -1) = 0 | shade(8, -9) = 1
            on [mount 40 1 0 snow 0 rest 40 names 1 first;]
            shade(2, 1) = 1 | shade(2, 9) = 1 | shade(2, -1) = 0
            on [mount 40 39 0 1 40 snow 0 rest 40 names 1 first;]
            shade(2, 9) = 1 | shade(2, -9) = 1 | shade(1, 1) = 0 | shade(1, -1) = 0
            """);
        holds(8, "-2: there are none such", """
            on RIDGE
            shade(0, 0) = -2 | shade(0, 10) = -2 | shade(0, -10) = -2 | shade(0, MIN) = -2 | shade(0, MAX) = -2
            shade(-1, 1) = -2 | shade(4, 1) = -2 | shade(MIN, 1) = -2 | shade(MAX, -1) = -2 | shade(4, 0) = -2
            shade(0, 9) = 0 | shade(0, -9) = 0 | shade(0, -1) = 1 | shade(3, 1) = 1
            """);
        holds(9, "LIGHT: HOURS (of 18) without SHADE", """
            on [mount 10 0 10 snow 0 rest 40 names 1 first;]
            light(0) = 18 | light(1) = 0 | light(2) = 18
            on [mount 9 0 10 snow 0 rest 40 names 1 first;]
            light(1) = 1
            on [mount 40 0 0 snow 0 rest 40 names 1 first;]
            light(1) = 9 | light(2) = 9 | light(0) = 18
            """);
        holds(9, "-2: there is none such", """
            on THREE
            light(-1) = -2 | light(3) = -2 | light(MIN) = -2 | light(MAX) = -2 | light(0) = 18 | light(2) = 18
            """);
        holds(10, "CELLS in SHADE in an HOUR, as bits", """
            on [mount 40 0 0 0 0 0 0 0 0 0 snow 0 rest 40 names 1 first;]
            dark(1) = 1022 | dark(4) = 1022 | dark(5) = 254 | dark(9) = 30 | dark(-1) = 0 | dark(-9) = 0
            on [mount 0 0 0 0 0 0 0 0 0 40 snow 0 rest 40 names 1 first;]
            dark(-1) = 511 | dark(1) = 0
            """);
        holds(10, "-2: there is no such HOUR", """
            on RIDGE
            dark(0) = -2 | dark(10) = -2 | dark(-10) = -2 | dark(MIN) = -2 | dark(MAX) = -2 | dark(9) = 0 | dark(-9) = 0 | dark(1) = 12
            """);
        holds(11, "CELLS not below snow's line", """
            on [mount 3 4 5 snow 4 rest 40 names 1 first;]
            snow() = 6
            on [mount 0 0 0 snow 0 rest 40 names 1 first;]
            snow() = 7
            on [mount 40 39 0 snow 40 rest 40 names 1 first;]
            snow() = 1 | take() = 0 | snow() = 0
            on FULL
            snow() = 1023
            """);
        holds(12, "of like ones the first, or the last, by SIDE", """
            on [mount 5 5 5 snow 4 rest 40 names 1 first;]
            top() = 0 | take() = 0 | top() = 1
            on [mount 5 5 5 snow 4 rest 40 names 1 last;]
            top() = 2 | take() = 2 | top() = 1
            on [mount 0 0 0 snow 4 rest 40 names 1 first;]
            top() = 0
            on [mount 0 0 0 snow 4 rest 40 names 1 last;]
            top() = 2
            on FULL
            top() = 9
            on [mount 4 5 4 snow 4 rest 40 names 1 last;]
            top() = 1
            """);
    }

    // ---- promises 13 to 21 ----

    private static void gains() {
        holds(13, "GAIN: sun times the LIGHT of its CELL, snow times SNOW, view times TOP", """
            on FULL
            gain(0) = 612 | gain(7) = 612
            on [mount 0 40 0 snow 40 rest 1 names 1 first;folk at 0 names 1 sun 0 snow 0 view 0;folk at 0 names 1 sun 9 snow 0 view 0;]
            gain(0) = 0 | gain(1) = 81
            on NOUGHTS
            gain(0) = 18
            """);
        holds(13, "-1,000: there is none such", """
            on RIDGE
            gain(-1) = -1000 | gain(3) = -1000 | gain(8) = -1000 | gain(MIN) = -1000 | gain(MAX) = -1000 | gain(2) = 17
            on THREE
            gain(0) = -1000
            on FULL
            gain(8) = -1000
            """);
        holds(14, "when n (0 .. 20) FEET are taken", """
            on HIGH
            hopes(0, 0) = 0 | hopes(0, 1) = 0 | hopes(0, 3) = -1 | hopes(0, 17) = -5 | hopes(0, 18) = -6 | hopes(0, 20) = -6
            height(0) = 40 | count(8) = 0
            """);
        holds(14, "(as far as TOP is above 0)", """
            on [mount 1 0 0 snow 40 rest 1 names 1 first;folk at 0 names 1 sun 0 snow 0 view 1;]
            hopes(0, 0) = 0 | hopes(0, 1) = -1 | hopes(0, 2) = -1 | hopes(0, 20) = -1
            take() = 0 | hopes(0, 20) = 0 | hopes(0, 1) = 0
            """);
        holds(14, "-1,000: there are none such", """
            on HIGH
            hopes(0, -1) = -1000 | hopes(0, 21) = -1000 | hopes(0, MIN) = -1000 | hopes(0, MAX) = -1000
            hopes(1, 0) = -1000 | hopes(-1, 0) = -1000 | hopes(8, 1) = -1000 | hopes(MIN, 1) = -1000 | hopes(MAX, 21) = -1000
            """);
        holds(15, "The n (0 .. 20) by which that is greatest", """
            on [mount 0 29 0 snow 40 rest 1 names 1 first;folk at 0 names 1 sun 1 snow 0 view 0;]
            wishes(0) = 20 | hopes(0, 19) = 0 | hopes(0, 20) = 1
            on [mount 0 30 0 snow 40 rest 1 names 1 first;folk at 0 names 1 sun 1 snow 0 view 0;]
            wishes(0) = 0 | hopes(0, 20) = 0
            on HIGH
            wishes(0) = 0
            """);
        holds(15, "the least of several", """
            on PEAK
            wishes(0) = 2 | hopes(0, 2) = 2 | hopes(0, 3) = 2 | hopes(0, 20) = 2
            on [mount 0 3 0 snow 40 rest 1 names 10 first;folk at 0 names 10 sun 0 snow 0 view 0;]
            wishes(0) = 0
            on NOUGHTS
            wishes(0) = 0
            """);
        holds(15, "-2: there is no such FOLK", """
            on PEAK
            wishes(1) = -2 | wishes(-1) = -2 | wishes(8) = -2 | wishes(MIN) = -2 | wishes(MAX) = -2
            """);
        holds(16, "GAINS of all FOLK now", """
            on FULL
            gains() = 4896 | take() = 9 | gains() = 4824
            on THREE
            gains() = 0
            """);
    }

    private static void acts() {
        holds(17, "A FOOT is taken: the CELL", """
            on [mount 1 1 1 snow 0 rest 1 names 1 last;]
            take() = 2 | take() = 1 | take() = 0 | count(8) = 3 | height(0) = 0 | height(1) = 0 | height(2) = 0
            """);
        holds(17, "-5: TOP is 0", """
            on NOUGHTS
            take() = -5 | count(8) = 0
            on [mount 0 1 0 snow 0 rest 1 names 1 last;]
            take() = 1 | take() = -5 | count(8) = 1 | heap(1) = 1 | take() = 1 | undo() = 2 | height(1) = 1
            """);
        holds(17, "-5: there were 60 acts", """
            on HIGH
            take() x59
            count(8) = 59 | take() = 2 | count(8) = 60
            take() = -5 | take() = -5 | count(8) = 60 | height(0) = 20 | height(1) = 20 | height(2) = 20
            undo() = 59 | take() = 2 | take() = -5 | anew() = 60 | take() = 0 | count(8) = 1
            """);
        holds(17, "-5: 60 acts that are both taken and heaped", """
            on [mount 1 2 1 snow 40 rest 40 names 1 first;]
            take() = 1 | heap(1) = 1 | take() = 1 | heap(0) = 0 | heap(2) = 2 | heap(0) x54
            count(8) = 59 | heap(0) = 0 | count(8) = 60
            take() = -5 | heap(1) = -5 | undo() = 59 | take() = 0 | take() = -5
            """);
    }

    private static void heaps() {
        holds(18, "higher .. by more than rest", """
            on [mount 0 2 0 snow 40 rest 3 names 1 first;]
            slides(1) = 1 | heap(1) = 1 | slides(1) = 0 | heap(1) = 0 | height(0) = 1 | height(1) = 3
            on [mount 0 39 0 snow 40 rest 40 names 1 first;]
            heap(1) = 1 | heap(1) = 0
            on [mount 0 0 0 snow 40 rest 1 names 1 first;]
            heap(1) = 1 | heap(1) = 0 | heap(1) = 2 | heap(1) = 1 | height(0) = 1 | height(1) = 2 | height(2) = 1
            """);
        holds(18, "the lower one of those two of which that is so (left, if like)", """
            on [mount 5 9 5 snow 40 rest 3 names 1 first;]
            heap(1) = 0 | heap(1) = 2 | heap(1) = 0
            on [mount 6 9 5 snow 40 rest 3 names 1 first;]
            heap(1) = 2
            on [mount 5 9 8 snow 40 rest 3 names 1 first;]
            heap(1) = 0
            on [mount 8 9 5 snow 40 rest 3 names 1 first;]
            heap(1) = 2
            on [mount 7 9 6 snow 40 rest 3 names 1 first;]
            heap(1) = 2
            on [mount 6 9 7 snow 40 rest 3 names 1 first;]
            heap(1) = 0
            """);
        holds(18, "and so on there; it stays where it is not so", """
            on [mount 40 36 32 28 24 20 16 12 8 4 snow 40 rest 4 names 1 first;]
            heap(0) = 9 | height(9) = 5 | height(0) = 40 | heap(0) = 8 | heap(0) = 7
            on [mount 4 8 12 16 20 24 28 32 36 40 snow 40 rest 4 names 1 first;]
            heap(9) = 0 | height(0) = 5 | heap(9) = 1 | heap(5) = 2 | heap(5) = 3
            on [mount 9 0 5 0 9 snow 40 rest 5 names 1 first;]
            heap(2) = 1 | heap(2) = 3 | heap(0) = 1 | heap(4) = 3 | heap(2) = 2 | height(2) = 6
            """);
        holds(18, "(the first CELL has none on its left, the last none on its right)", """
            on [mount 0 0 0 snow 40 rest 2 names 1 first;]
            heap(0) = 0 | heap(0) = 0 | heap(0) = 1 | heap(2) = 2 | heap(2) = 2 | heap(2) = 2 | heap(2) = 1
            """);
        holds(18, "-2: there is none such", """
            on THREE
            heap(-1) = -2 | heap(3) = -2 | heap(MIN) = -2 | heap(MAX) = -2 | count(8) = 0
            on FULL
            heap(10) = -2 | heap(9) = 9
            """);
        holds(18, "-5: there were 60 acts; -2 is asked ahead of -5", """
            on HIGH
            heap(0) x60
            count(8) = 60 | heap(0) = -5 | heap(2) = -5 | heap(3) = -2 | heap(-1) = -2 | take() = -5 | slides(2) = 2
            height(0) = 90 | height(1) = 50 | height(2) = 40
            """);
        holds(18, "A height goes to 99 at most (so far no run can bring it: 60 acts from 40 stay below)", """
            on [mount 40 40 40 snow 40 rest 40 names 1 first;]
            heap(0) x40
            height(0) = 80 | heap(0) = 1 | height(1) = 41 | heap(0) = 0 | height(0) = 81 | heap(0) x18
            count(8) = 60 | height(0) = 90 | height(1) = 50 | slides(0) = 1 | slides(1) = 1
            """);
        holds(19, "Where it would stay", """
            on [mount 40 36 32 28 24 20 16 12 8 4 snow 40 rest 4 names 1 first;]
            slides(0) = 9 | slides(8) = 9 | slides(9) = 9 | height(9) = 4 | count(8) = 0
            on NOUGHTS
            slides(0) = 0 | slides(1) = 1 | slides(2) = 2
            """);
        holds(19, "-2 likewise", """
            on THREE
            slides(-1) = -2 | slides(3) = -2 | slides(MIN) = -2 | slides(MAX) = -2
            """);
    }

    private static void actsTakenBack() {
        holds(20, "The latest of these acts is taken back: how many there are", """
            on THREE
            take() = 2 | heap(0) = 0 | take() = 0 | count(8) = 3
            undo() = 2 | height(0) = 2 | height(2) = 2 | undo() = 1 | height(0) = 1 | undo() = 0 | height(2) = 3 | count(8) = 0
            """);
        holds(20, "(a FOOT that slid is taken from where it stays)", """
            on [mount 9 6 3 0 snow 40 rest 2 names 1 first;]
            heap(0) = 3 | heap(1) = 3 | height(3) = 2 | undo() = 1 | height(3) = 1 | height(0) = 9 | height(1) = 6 | undo() = 0 | height(3) = 0
            """);
        holds(20, "-5: there is none", """
            on THREE
            undo() = -5 | take() = 2 | undo() = 0 | undo() = -5 | undo() = -5 | count(8) = 0 | height(2) = 3
            """);
        holds(20, "-2: there is no MOUNTAIN", """
            on THREE
            take() = 2 | mount() = 0 | undo() = -2 | anew() = -2
            """);
        holds(21, "All are: how many there were", """
            on HIGH
            anew() = 0 | take() = 0 | anew() = 1 | height(0) = 40 | take() x30
            heap(0) x30
            anew() = 60 | anew() = 0 | count(8) = 0 | height(0) = 40 | height(1) = 40 | height(2) = 40 | undo() = -5
            """);
    }

    // ---- promises 22 to 30 ----

    private static void signers() {
        holds(22, "A FOLK is WILLING, if its GAIN is greater when a FOOT is taken", """
            on [mount 0 3 0 snow 40 rest 1 names 1 first;folk at 0 names 1 sun 1 snow 0 view 1;folk at 0 names 1 sun 2 snow 0 view 1;]
            willing() = 2 | hopes(0, 1) = 0 | hopes(1, 1) = 1
            on [mount 0 2 0 snow 40 rest 1 names 1 first;folk at 0 names 1 sun 1 snow 0 view 0;folk at 1 names 1 sun 9 snow 0 view 0;]
            willing() = 1 | take() = 1 | willing() = 0
            on [mount 0 11 0 snow 40 rest 1 names 1 first;folk at 0 names 1 sun 1 snow 0 view 0;]
            willing() = 0 | take() = 1 | willing() = 1
            """);
        holds(22, "(none, if TOP is 0; none without FOLK)", """
            on NOUGHTS
            willing() = 0
            on THREE
            willing() = 0
            """);
        holds(22, "as bits, all eight", """
            on [mount 0 3 0 snow 40 rest 1 names 8 first;%s]
            willing() = 255 | signers(0) = 255 | names(0) = 792 | first() = 0
            """.replace("%s", "folk at 0 names 99 sun 1 snow 0 view 0;".repeat(8)));
        holds(23, "as long as there is one, each of whose FRIENDS as many sign as its talk says", """
            on CHAIN
            signers(0) = 0 | signers(1) = 255 | signers(2) = 254 | signers(128) = 254 | signers(16) = 254 | signers(255) = 255
            """);
        holds(23, "(as its talk says: one fewer is too few)", """
            on [mount 0 3 0 snow 40 rest 1 names 8 first;%sfolk at 1 names 1 sun 0 snow 0 view 0 talk 7 with 0 1 2 3 4 5 6;]
            signers(63) = 63 | signers(127) = 255 | signers(128) = 128 | signers(126) = 126
            """.replace("%s", "folk at 1 names 1 sun 0 snow 0 view 0;".repeat(7)));
        holds(23, "(like ones count once)", """
            on [mount 0 3 0 snow 40 rest 1 names 8 first;folk at 0 names 1 sun 1 snow 0 view 0;folk at 1 names 1 sun 0 snow 0 view 0 talk 2 with 0 0 0;]
            signers(0) = 1 | signers(1) = 1 | signers(2) = 3 | folk(1, 6) = 1
            """);
        holds(23, "(one without talk is not brought, though all its FRIENDS sign)", """
            on CHAIN
            signers(254) = 254 | folk(0, 5) = 0 | folk(0, 6) = 2
            """);
        holds(23, "-2: there is no such set", """
            on RIDGE
            signers(7) = 7 | signers(8) = -2 | signers(-1) = -2 | signers(MIN) = -2 | signers(MAX) = -2
            on THREE
            signers(0) = 0 | signers(1) = -2
            on CHAIN
            signers(255) = 255 | signers(256) = -2
            """);
        holds(24, "Their names", """
            on CHAIN
            names(0) = 0 | names(1) = 8 | names(128) = 7 | names(255) = 8
            on FULL
            names(255) = 792 | names(0) = 0 | names(128) = 99
            """);
        holds(24, "-2 likewise", """
            on CHAIN
            names(256) = -2 | names(-1) = -2 | names(MIN) = -2 | names(MAX) = -2
            on THREE
            names(0) = 0 | names(1) = -2
            """);
    }

    private static void whomToWin() {
        holds(25, "the fewest FOLK to be won so that it is ENOUGH: no fewer than the law's names", """
            on CHAIN
            first() = 1 | tell(7) = 8 | first() = 1 | tell(9) = 7 | first() = -1
            on PEAK
            first() = 0 | tell(11) = 10 | first() = -1 | tell(9) = 11 | first() = 0
            """);
        holds(25, "(up to all eight)", """
            on FULL
            first() = -1 | tell(792) = 999 | first() = 8 | tell(793) = 792 | first() = -1 | tell(693) = 793 | first() = 7 | tell(694) = 693 | first() = 8
            tell(99) = 694 | first() = 1 | tell(1) = 99 | first() = 1
            """);
        holds(25, "NONE: by none", """
            on THREE
            first() = -1 | firsts() = -1 | tell(1) = 5 | first() = -1
            """);
        holds(26, "Which, as bits: the least set of so few", """
            on FULL
            tell(792) = 999 | firsts() = 255 | tell(198) = 792 | firsts() = 3 | tell(99) = 198 | firsts() = 1 | tell(793) = 99 | firsts() = -1
            on CHAIN
            firsts() = 1 | tell(7) = 8 | firsts() = 1 | tell(9) = 7 | firsts() = -1
            on PEAK
            firsts() = 0
            on [mount 0 3 0 snow 40 rest 1 names 9 first;%sfolk at 1 names 9 sun 0 snow 0 view 0;]
            firsts() = 128 | first() = 1 | tell(10) = 9 | firsts() = 129
            """.replace("%s", "folk at 1 names 1 sun 0 snow 0 view 0;".repeat(7)));
        holds(27, "The FOLK that brings most names more, .. the least of several, if any does", """
            on CHAIN
            next(0) = 0 | next(254) = 0 | next(2) = 0
            on FULL
            next(0) = 0 | next(1) = 1 | next(127) = 7 | next(129) = 1
            """);
        holds(27, "NONE: none", """
            on CHAIN
            next(1) = -1 | next(255) = -1
            on FULL
            next(255) = -1
            on PEAK
            next(0) = -1 | next(1) = -1
            on THREE
            next(0) = -1
            """);
        holds(27, "-2: there is no such set", """
            on CHAIN
            next(256) = -2 | next(-1) = -2 | next(MIN) = -2 | next(MAX) = -2
            on THREE
            next(1) = -2
            """);
        holds(28, "FOLK without each of which .. it would not be ENOUGH, if it is, as bits; 0: it is not", """
            on [mount 0 3 0 snow 40 rest 1 names 2 first;folk at 0 names 1 sun 1 snow 0 view 0;folk at 1 names 1 sun 0 snow 0 view 0 talk 1 with 0;]
            needed() = 3 | tell(1) = 2 | needed() = 1 | tell(3) = 1 | needed() = 0
            on [mount 0 3 0 snow 40 rest 1 names 1 first;folk at 0 names 1 sun 1 snow 0 view 0;folk at 2 names 1 sun 1 snow 0 view 0;]
            needed() = 0 | tell(2) = 1 | needed() = 3
            on THREE
            needed() = 0
            on [mount 0 3 0 snow 40 rest 1 names 792 first;%s]
            needed() = 255 | tell(693) = 792 | needed() = 0 | tell(694) = 693 | needed() = 255
            """.replace("%s", "folk at 0 names 99 sun 1 snow 0 view 0;".repeat(8)));
    }

    private static void plays() {
        String three = "on [mount 0 0 0 snow 40 rest 1 names 10 first;" + "folk at 0 names 5 sun 0 snow 0 view 0;".repeat(3) + "]\n";
        holds(29, "any that is neither won nor barred (none, if there is none left)", three + """
            play(4, 0) = 1 | play(3, 0) = 1 | play(2, 0) = 1 | play(1, 0) = 0 | play(0, 0) = 0
            play(4, 1) = 0 | play(2, 1) = 0 | play(1, 1) = 0
            tell(11) = 10 | play(4, 0) = 0 | tell(5) = 11 | play(1, 0) = 1 | play(1, 1) = 1 | play(4, 1) = 1 | tell(6) = 5 | play(4, 1) = 0
            """);
        holds(29, "(of one FOLK)", """
            on [mount 0 0 0 snow 40 rest 1 names 5 first;folk at 0 names 5 sun 0 snow 0 view 0;]
            play(0, 0) = 0 | play(1, 0) = 1 | play(4, 0) = 1 | play(1, 1) = 0 | play(4, 1) = 0
            """);
        holds(29, "(without FOLK)", """
            on THREE
            play(0, 0) = 0 | play(4, 0) = 0 | play(4, 1) = 0
            """);
        holds(29, "(which then never signs, nor is counted by talk)", """
            on [mount 0 3 0 snow 40 rest 1 names 10 first;folk at 0 names 10 sun 1 snow 0 view 0;folk at 2 names 5 sun 0 snow 0 view 1 talk 1 with 0;]
            play(0, 0) = 1 | play(0, 1) = 1 | play(1, 1) = 0 | moves(1, 1) = 0 | play(1, 0) = 1 | moves(1, 0) = 0
            tell(5) = 10 | play(1, 1) = 1 | tell(15) = 5 | play(0, 1) = 1 | play(1, 0) = 0 | play(1, 1) = 0
            """);
        holds(29, "n (0 .. 4) each, of eight FOLK", """
            on FULL
            tell(396) = 999 | play(4, 0) = 1 | play(4, 1) = 1 | play(3, 0) = 0 | tell(397) = 396 | play(4, 0) = 0 | play(4, 1) = 0
            tell(297) = 397 | play(3, 0) = 1 | play(3, 1) = 1 | play(2, 1) = 0 | tell(298) = 297 | play(3, 0) = 0 | tell(1) = 298 | play(0, 1) = 0
            """);
        holds(29, "-2: there are none such", """
            on RIDGE
            play(-1, 0) = -2 | play(5, 0) = -2 | play(MIN, 0) = -2 | play(MAX, 1) = -2
            play(1, -1) = -2 | play(1, 2) = -2 | play(1, MIN) = -2 | play(1, MAX) = -2 | play(4, 0) = 0 | play(4, 1) = 0
            """);
        holds(30, "the least by which he has what he wants; if by none, the least there is", three + """
            moves(4, 0) = 0 | moves(1, 0) = 0 | moves(4, 1) = 0 | tell(999) = 10 | moves(4, 0) = 0 | moves(4, 1) = 0
            on [mount 0 0 0 snow 40 rest 1 names 9 first;%sfolk at 1 names 9 sun 0 snow 0 view 0;]
            moves(1, 0) = 7 | moves(4, 0) = 7 | moves(1, 1) = 7 | tell(10) = 9 | moves(1, 0) = 0 | moves(1, 1) = 0 | moves(2, 0) = 7
            """.replace("%s", "folk at 1 names 1 sun 0 snow 0 view 0;".repeat(7)));
        // Names 3 5 2, law 7: by 5 he has 7 at least; by 3 it is 5, by 2 it is 5.
        holds(30, "(neither the first nor the last of three)", """
            on [mount 0 0 0 snow 40 rest 1 names 7 first;folk at 0 names 3 sun 0 snow 0 view 0;folk at 0 names 5 sun 0 snow 0 view 0;folk at 0 names 2 sun 0 snow 0 view 0;]
            play(2, 0) = 1 | moves(2, 0) = 1 | play(2, 1) = 0 | moves(2, 1) = 0 | tell(5) = 7 | play(2, 0) = 1 | moves(2, 0) = 0 | tell(3) = 5 | play(2, 1) = 1 | moves(2, 1) = 0
            tell(8) = 3 | play(2, 0) = 0 | moves(2, 0) = 0
            """);
        // Names 4 99 1 64 2 16 32 8: by turns 99 64 32 16 8 4 2 1 go.
        holds(30, "(of eight, all unlike)", """
            on [mount 0 0 0 snow 40 rest 1 names 141 first;%s]
            play(4, 0) = 1 | moves(4, 0) = 1 | tell(142) = 141 | play(4, 0) = 0 | moves(4, 0) = 0 | tell(85) = 142 | play(4, 1) = 1 | moves(4, 1) = 0
            tell(86) = 85 | play(4, 1) = 0 | moves(4, 1) = 1 | tell(131) = 86 | play(2, 0) = 1 | tell(132) = 131 | play(2, 0) = 0 | play(3, 0) = 1 | tell(80) = 132 | play(2, 1) = 1
            tell(81) = 80 | play(2, 1) = 0 | play(3, 1) = 1 | tell(84) = 81 | play(3, 1) = 1 | tell(85) = 84 | play(3, 1) = 0
            """.replace("%s", silent(4, 99, 1, 64, 2, 16, 32, 8)));
        holds(30, "NONE: n is 0, there are no FOLK", """
            on RIDGE
            moves(0, 0) = -1 | moves(0, 1) = -1
            on THREE
            moves(1, 0) = -1 | moves(4, 1) = -1 | moves(0, 0) = -1
            """);
        holds(30, "-2 likewise", """
            on RIDGE
            moves(-1, 0) = -2 | moves(5, 0) = -2 | moves(1, 2) = -2 | moves(1, -1) = -2 | moves(0, 2) = -2 | moves(MIN, MAX) = -2
            on THREE
            moves(5, 0) = -2 | moves(1, 2) = -2
            """);
    }

    /** FOLK of so many names, none of whom is WILLING or talks. */
    private static String silent(int... names) {
        StringBuilder out = new StringBuilder();
        for (int n : names) {
            out.append("folk at 0 names ").append(n).append(" sun 0 snow 0 view 0;");
        }
        return out.toString();
    }

    // ---- promises 31 to 39 ----

    private static void rounds() {
        holds(31, "the fewest steps .. to CELLS of WILLING FOLK whose names are n at least", """
            on WALK
            round(0, 5) = 0 | round(0, 6) = 2 | round(0, 8) = 2 | round(0, 9) = 6 | round(0, 12) = 6 | round(0, 13) = 8 | round(0, 18) = 8
            round(8, 6) = 0 | round(8, 7) = 2 | round(8, 18) = 8 | round(4, 1) = 2 | round(4, 18) = 12 | round(1, 8) = 3 | round(5, 1) = 1
            """);
        // WILLING at both ends: 12 feet above them, and 3 and 6 CELLS away, 12 is a multiple of both.
        holds(31, "(from one end of ten CELLS to the other)", """
            on [mount 0 0 0 13 0 0 0 0 0 0 snow 40 rest 40 names 1 first;folk at 0 names 7 sun 1 snow 0 view 0;folk at 9 names 5 sun 1 snow 0 view 0;]
            willing() = 3 | round(0, 12) = 9 | round(9, 12) = 9 | round(9, 5) = 0 | round(0, 7) = 0 | round(4, 5) = 4 | round(4, 6) = 4 | round(4, 12) = 13 | round(5, 12) = 13
            goes(4, 12, 0) = 0 | goes(4, 12, 1) = 9 | goes(4, 5, 0) = 0 | goes(4, 5, 1) = 4 | goes(5, 5, 0) = 5 | goes(5, 5, 1) = 9 | two(0, 9, 12) = 0 | two(1, 7, 12) = 2 | two(9, 9, 12) = 9
            round(10, 1) = -2 | two(10, 0, 1) = -2
            """);
        holds(31, "n (1 .. 800)", """
            on WALK
            round(0, 0) = -2 | round(0, -1) = -2 | round(0, 1) = 0 | round(0, 800) = -1 | round(0, 801) = -2 | round(0, MIN) = -2 | round(0, MAX) = -2
            """);
        holds(31, "NONE: they have not so many", """
            on WALK
            round(0, 18) = 8 | round(0, 19) = -1
            on [mount 0 3 0 snow 40 rest 1 names 8 first;%s]
            round(0, 792) = 0 | round(2, 792) = 2 | round(0, 793) = -1 | round(0, 800) = -1
            on NOUGHTS
            round(1, 1) = -1
            on THREE
            round(0, 1) = -1
            """.replace("%s", "folk at 0 names 99 sun 1 snow 0 view 0;".repeat(8)));
        holds(31, "-2: there are none such", """
            on WALK
            round(-1, 1) = -2 | round(9, 1) = -2 | round(MIN, 1) = -2 | round(MAX, 1) = -2 | round(9, 800) = -2
            """);
        holds(32, "(from where he begins), of several ways the one with the lesser leftmost", """
            on WALK
            goes(0, 5, 0) = 0 | goes(0, 5, 1) = 0 | goes(8, 6, 0) = 8 | goes(8, 6, 1) = 8 | goes(4, 3, 0) = 2 | goes(4, 3, 1) = 4
            goes(4, 4, 0) = 4 | goes(4, 4, 1) = 6 | goes(4, 18, 0) = 0 | goes(4, 18, 1) = 8 | goes(1, 8, 0) = 0 | goes(1, 8, 1) = 2
            """);
        holds(32, "NONE, -2 likewise, no such what", """
            on WALK
            goes(4, 19, 0) = -1 | goes(4, 19, 1) = -1 | goes(4, 800, 0) = -1 | goes(4, 801, 0) = -2 | goes(4, 0, 0) = -2
            goes(9, 1, 0) = -2 | goes(-1, 1, 0) = -2 | goes(4, 1, 2) = -2 | goes(4, 1, -1) = -2 | goes(4, 19, 2) = -2 | goes(MIN, MAX, MIN) = -2
            """);
        holds(33, "the fewest steps of the one who goes more", """
            on WALK
            two(0, 8, 11) = 0 | two(0, 8, 12) = 2 | two(0, 8, 18) = 2 | two(0, 0, 5) = 0 | two(0, 0, 8) = 2 | two(0, 0, 18) = 8 | two(4, 4, 7) = 2
            two(4, 4, 18) = 4 | two(2, 6, 18) = 2 | two(6, 2, 18) = 2 | two(8, 0, 11) = 0
            """);
        holds(33, "n (1 .. 800) .. NONE, -2 likewise", """
            on WALK
            two(0, 8, 18) = 2 | two(0, 8, 19) = -1 | two(0, 8, 800) = -1 | two(0, 8, 801) = -2 | two(0, 8, 0) = -2 | two(0, 8, -1) = -2
            two(-1, 8, 1) = -2 | two(9, 8, 1) = -2 | two(0, -1, 1) = -2 | two(0, 9, 1) = -2 | two(MIN, MAX, 1) = -2 | two(0, 8, MAX) = -2
            on NOUGHTS
            two(0, 1, 1) = -1
            """);
    }

    private static void water() {
        holds(34, "the lower one of those beside it that are lower than it (left, if like), and so on", """
            on [mount 9 8 7 6 5 4 3 2 1 0 snow 40 rest 1 names 1 first;]
            flows(0) = 9 | flows(9) = 9 | flows(5) = 9
            on [mount 0 1 2 3 4 5 6 7 8 9 snow 40 rest 1 names 1 first;]
            flows(9) = 0 | flows(0) = 0
            on [mount 4 5 4 snow 40 rest 1 names 1 first;]
            flows(1) = 0
            on [mount 4 5 3 snow 40 rest 1 names 1 first;]
            flows(1) = 2
            on [mount 5 5 4 snow 40 rest 1 names 1 first;]
            flows(0) = 0 | flows(1) = 2
            on [mount 4 5 5 snow 40 rest 1 names 1 first;]
            flows(1) = 0 | flows(2) = 2
            on [mount 5 5 5 snow 40 rest 1 names 1 first;]
            flows(0) = 0 | flows(1) = 1 | flows(2) = 2
            """);
        holds(34, "-2: there is none such", """
            on THREE
            flows(-1) = -2 | flows(3) = -2 | flows(MIN) = -2 | flows(MAX) = -2 | flows(2) = 0
            """);
        holds(35, "CELLS from which it ends in a CELL (it, too), as bits", """
            on [mount 9 8 7 6 5 4 3 2 1 0 snow 40 rest 1 names 1 first;]
            basin(9) = 1023 | basin(0) = 0 | basin(8) = 0
            on [mount 5 5 5 snow 40 rest 1 names 1 first;]
            basin(0) = 1 | basin(1) = 2 | basin(2) = 4
            on [mount 4 5 4 snow 40 rest 1 names 1 first;]
            basin(0) = 3 | basin(1) = 0 | basin(2) = 4
            """);
        holds(35, "-2 likewise", """
            on THREE
            basin(-1) = -2 | basin(3) = -2 | basin(MIN) = -2 | basin(MAX) = -2 | basin(0) = 7
            """);
        holds(36, "pairs of CELLS beside each other whose heights are more than rest apart", """
            on [mount 0 2 4 7 snow 40 rest 2 names 1 first;]
            cliffs() = 1
            on [mount 7 4 2 0 snow 40 rest 2 names 1 first;]
            cliffs() = 1 | take() = 0 | cliffs() = 0
            on [mount 0 40 0 40 0 40 0 40 0 40 snow 40 rest 39 names 1 first;]
            cliffs() = 9
            on [mount 0 40 0 40 0 40 0 40 0 40 snow 40 rest 40 names 1 first;]
            cliffs() = 0
            """);
        holds(37, "CELLS in which WATER ends, as bits", """
            on FULL
            springs() = 1023
            on [mount 9 8 7 6 5 4 3 2 1 0 snow 40 rest 1 names 1 first;]
            springs() = 512
            on [mount 0 1 2 1 0 1 0 snow 40 rest 1 names 1 first;]
            springs() = 81
            """);
    }

    private static void sight() {
        holds(38, "(it, too): none between them is above the straight line of their heights", """
            on [mount 0 1 2 snow 40 rest 1 names 1 first;]
            sees(0) = 7 | sees(1) = 7 | sees(2) = 7
            on [mount 0 2 2 snow 40 rest 1 names 1 first;]
            sees(0) = 3 | sees(1) = 7 | sees(2) = 6
            on [mount 0 2 3 snow 40 rest 1 names 1 first;]
            sees(0) = 3 | sees(2) = 6
            on [mount 3 2 0 snow 40 rest 1 names 1 first;]
            sees(0) = 3 | sees(2) = 6
            on [mount 5 5 5 snow 40 rest 1 names 1 first;]
            sees(0) = 7
            on FULL
            sees(0) = 1023 | sees(9) = 1023
            on [mount 0 40 0 snow 40 rest 1 names 1 first;]
            sees(0) = 3 | sees(1) = 7 | sees(2) = 6
            on [mount 0 1 2 4 snow 40 rest 1 names 1 first;]
            sees(0) = 15 | sees(3) = 15
            on [mount 0 2 3 5 snow 40 rest 1 names 1 first;]
            sees(0) = 3 | sees(1) = 15 | sees(2) = 14 | sees(3) = 14
            on [mount 9 0 2 3 snow 40 rest 1 names 1 first;]
            sees(0) = 15 | sees(1) = 7 | sees(2) = 15 | sees(3) = 13
            on [mount 9 9 4 0 2 3 snow 40 rest 1 names 1 first;]
            sees(3) = 30 | sees(5) = 54
            """);
        holds(38, "-2: there is none such", """
            on THREE
            sees(-1) = -2 | sees(3) = -2 | sees(MIN) = -2 | sees(MAX) = -2 | sees(0) = 7
            """);
        holds(39, "The CELL that sees most, the first of several", """
            on FULL
            lookout() = 0
            on [mount 0 40 0 snow 40 rest 1 names 1 first;]
            lookout() = 1
            on [mount 0 2 3 5 snow 40 rest 1 names 1 last;]
            lookout() = 1
            on [mount 3 5 3 5 0 snow 40 rest 1 names 1 last;]
            lookout() = 1
            """);
    }

    // ---- promises 40 to 50 ----

    private static void votes() {
        String beside = "on [mount 3 0 3 0 1 snow 40 rest 1 names 1 first;folk at 1 names 7 sun 1 snow 0 view 0;folk at 3 names 2 sun 1 snow 0 view 0;]\n";
        holds(40, "FOLK whose GAIN is greater with a FOOT taken from a CELL than from another one, as bits", beside + """
            votes(0, 2) = 0 | votes(2, 0) = 2 | votes(0, 4) = 1 | votes(4, 0) = 0 | votes(2, 4) = 3 | votes(4, 2) = 0 | votes(2, 2) = 0
            height(2) = 3 | count(8) = 0
            on FULL
            votes(0, 9) = 0 | votes(9, 0) = 0 | votes(0, 1) = 0
            """);
        holds(40, "-2: there are none such, one is 0 high", beside + """
            votes(0, 1) = -2 | votes(1, 0) = -2 | votes(1, 3) = -2 | votes(1, 1) = -2 | votes(4, 0) = 0
            votes(5, 0) = -2 | votes(0, 5) = -2 | votes(-1, 0) = -2 | votes(0, -1) = -2 | votes(MIN, 0) = -2 | votes(0, MAX) = -2 | votes(MAX, MIN) = -2
            on THREE
            votes(0, 1) = 0 | take() = 2 | heap(2) = 2
            on [mount 1 2 3 snow 2 rest 1 names 5 last;]
            votes(0, 2) = 0 | take() x4
            height(0) = 1 | height(1) = 1 | height(2) = 0 | votes(0, 1) = 0 | votes(0, 2) = -2 | votes(2, 0) = -2
            """);
        holds(41, "The first CELL (above 0) for which .. names of VOTES are no fewer than for that", beside + """
            elected() = 2
            on [mount 0 5 5 snow 40 rest 1 names 1 last;]
            elected() = 1
            on [mount 0 0 1 snow 40 rest 1 names 1 last;folk at 2 names 1 sun 0 snow 0 view 9;]
            elected() = 2 | take() = 2 | elected() = -1
            on [mount 3 0 1 snow 40 rest 1 names 1 last;folk at 1 names 1 sun 1 snow 0 view 0;]
            elected() = 0
            on [mount 1 0 3 snow 40 rest 1 names 1 last;folk at 1 names 1 sun 0 snow 0 view 1;]
            votes(0, 2) = 1 | elected() = 0
            on [mount 3 0 1 snow 40 rest 1 names 1 last;folk at 1 names 1 sun 0 snow 0 view 1;]
            votes(2, 0) = 1 | elected() = 2
            """);
        holds(41, "NONE: none", """
            on NOUGHTS
            elected() = -1
            on [mount 5 4 7 snow 2 rest 1 names 1 first;folk at 1 names 3 sun 1 snow 0 view 0;folk at 0 names 2 sun 1 snow 1 view 1;folk at 2 names 2 sun 0 snow 1 view 1;]
            elected() = -1
            """);
        holds(42, "the CELL (above 0) from which a FOOT taken makes GAINS of all FOLK greatest, the first of several", beside + """
            best() = 2
            on [mount 0 5 5 snow 40 rest 1 names 1 last;]
            best() = 1
            on [mount 0 0 1 snow 40 rest 1 names 1 last;folk at 2 names 1 sun 0 snow 0 view 9;]
            best() = 2
            on FULL
            best() = 0
            """);
        holds(42, "NONE: all are 0", """
            on NOUGHTS
            best() = -1
            on [mount 0 0 1 snow 40 rest 1 names 1 last;]
            best() = 2 | take() = 2 | best() = -1
            """);
    }

    private static void shapes() {
        holds(43, "by n (0 .. 3) FEET taken from any CELLS (that have so many)", """
            on [mount 1 1 1 snow 1 rest 1 names 1 first;folk at 0 names 1 sun 0 snow 1 view 0;]
            shape(0) = 3 | shape(1) = 2 | shape(2) = 1 | shape(3) = 0 | shaped(3, 0) = 0 | shaped(3, 1) = 1 | shaped(3, 2) = 2
            on [mount 0 3 0 snow 1 rest 1 names 1 first;folk at 0 names 1 sun 0 snow 0 view 1;]
            shape(0) = 3 | shape(3) = 0 | shaped(3, 0) = 1 | shaped(3, 2) = 1 | gains() = 3 | height(1) = 3
            on [mount 2 0 1 snow 40 rest 1 names 1 first;folk at 1 names 1 sun 1 snow 0 view 1;]
            shape(0) = 19 | shape(1) = 19 | shaped(1, 0) = 0 | shape(2) = 19 | shaped(2, 0) = 0 | shaped(2, 1) = 0 | shape(3) = 18
            """);
        holds(43, "-2: there is no such n", """
            on RIDGE
            shape(-1) = -2 | shape(4) = -2 | shape(MIN) = -2 | shape(MAX) = -2 | shape(3) = 77
            """);
        holds(43, "-2: not so many FEET at all", """
            on NOUGHTS
            shape(0) = 18 | shape(1) = -2 | shape(2) = -2 | shape(3) = -2
            on [mount 1 0 1 snow 40 rest 1 names 1 first;]
            shape(0) = 0 | shape(2) = 0 | shape(3) = -2 | take() = 0 | shape(1) = 0 | shape(2) = -2
            """);
        holds(44, "the first such way (the least row of CELLS that go up or stay)", """
            on [mount 2 2 2 snow 40 rest 1 names 1 first;]
            shaped(1, 0) = 0 | shaped(2, 0) = 0 | shaped(2, 1) = 0 | shaped(3, 0) = 0 | shaped(3, 1) = 0 | shaped(3, 2) = 1
            on [mount 1 3 1 snow 40 rest 1 names 1 last;]
            shaped(3, 0) = 0 | shaped(3, 1) = 1 | shaped(3, 2) = 1
            """);
        holds(44, "NONE: there is none such", """
            on THREE
            shaped(0, 0) = -1 | shaped(0, -1) = -1 | shaped(1, 1) = -1 | shaped(1, -1) = -1 | shaped(3, 3) = -1 | shaped(3, 2) = 1
            shaped(3, MIN) = -1 | shaped(3, MAX) = -1
            """);
        holds(44, "-2 likewise", """
            on THREE
            shaped(-1, 0) = -2 | shaped(4, 0) = -2 | shaped(4, 4) = -2 | shaped(MAX, MIN) = -2
            on NOUGHTS
            shaped(0, 0) = -1 | shaped(1, 0) = -2 | shaped(1, 1) = -2
            """);
        holds(45, "the CELL on which a FOOT heaped makes GAINS of all greatest, the first of several", """
            on THREE
            spoil() = 0
            on [mount 1 2 5 snow 40 rest 9 names 1 first;folk at 0 names 1 sun 0 snow 0 view 1;]
            spoil() = 2
            on [mount 1 2 5 snow 40 rest 3 names 1 first;folk at 0 names 1 sun 0 snow 0 view 1;]
            spoil() = 0
            on [mount 0 4 9 snow 1 rest 5 names 1 first;folk at 0 names 1 sun 0 snow 1 view 0;]
            spoil() = 0 | height(0) = 0
            on [mount 9 3 0 snow 1 rest 3 names 1 first;folk at 0 names 1 sun 0 snow 1 view 0;]
            spoil() = 0
            on NOUGHTS
            spoil() = 0
            on [mount 2 2 2 3 2 snow 3 rest 9 names 1 first;folk at 0 names 1 sun 0 snow 1 view 0;folk at 0 names 1 sun 0 snow 0 view 3;]
            spoil() = 3
            on [mount 2 2 2 3 2 snow 3 rest 9 names 1 first;folk at 0 names 1 sun 0 snow 3 view 0;folk at 0 names 1 sun 0 snow 0 view 1;]
            spoil() = 0
            on [mount 10 0 0 snow 40 rest 40 names 1 first;folk at 2 names 1 sun 1 snow 0 view 0;]
            spoil() = 1
            on [mount 11 2 2 2 2 snow 3 rest 9 names 1 first;folk at 4 names 1 sun 9 snow 0 view 0;]
            spoil() = 4
            """);
    }

    private static void courses() {
        holds(46, "as long as SIGNERS of none won have n names at least, TOP is above 0", """
            on PEAK
            course(1) = 2 | course(9) = 2 | course(10) = 2 | course(11) = 0 | course(999) = 0
            on NOUGHTS
            course(1) = 0
            on THREE
            course(1) = 0
            on [mount 0 2 0 snow 40 rest 1 names 10 first;folk at 0 names 99 sun 9 snow 0 view 0;]
            course(99) = 1 | ends(99) = 1 | course(100) = 0
            """);
        holds(46, "(60 at most). All is as ahead of it then.", """
            on LONG
            course(1) = 60 | count(8) = 0 | height(5) = 38 | take() = 5 | course(1) = 60 | count(8) = 1 | height(5) = 37
            take() x7
            course(1) = 60 | undo() = 7
            """);
        holds(46, "-2: there is no such n", """
            on PEAK
            course(0) = -2 | course(1000) = -2 | course(-1) = -2 | course(MIN) = -2 | course(MAX) = -2 | course(999) = 0
            """);
        holds(47, "TOP then", """
            on PEAK
            ends(10) = 1 | ends(11) = 3 | ends(1) = 1 | ends(999) = 3
            on NOUGHTS
            ends(1) = 0 | ends(999) = 0
            """);
        // 56 FEET above 13, and four more, from the last: CELL 2 stays 13 high, 3, 5, 7 and 9 are 12.
        holds(47, "(TOP behind 60 FEET, as if they were taken)", """
            on LONG
            ends(1) = 13 | left(1, 0) = 0 | left(1, 5) = 14 | course(1) = 60 | take() x60
            top() = 2 | height(2) = 13 | height(3) = 12 | height(5) = 12 | gain(0) = 0 | gain(5) = 14
            """);
        holds(47, "-2 likewise", """
            on PEAK
            ends(0) = -2 | ends(1000) = -2 | ends(-1) = -2 | ends(MIN) = -2 | ends(MAX) = -2
            """);
        holds(48, "The GAIN of a FOLK then", """
            on PEAK
            left(10, 0) = 18 | left(11, 0) = 16 | left(999, 0) = 16 | gain(0) = 16
            """);
        holds(48, "-1,000: there are none such", """
            on PEAK
            left(0, 0) = -1000 | left(1000, 0) = -1000 | left(1, 1) = -1000 | left(1, -1) = -1000 | left(1, 8) = -1000 | left(MIN, MAX) = -1000
            on THREE
            left(1, 0) = -1000
            """);
        holds(49, "The greatest n (1 .. 999) by which a COURSE takes k (1 .. 60) FEET at least", """
            on PEAK
            law(1) = 10 | law(2) = 10 | law(3) = -1 | law(60) = -1
            on [mount 0 2 0 snow 40 rest 1 names 10 first;%s]
            law(1) = 792 | law(2) = -1
            """.replace("%s", "folk at 0 names 99 sun 9 snow 0 view 0;".repeat(8)));
        holds(49, "(k is 60)", """
            on LONG
            law(60) = 1 | course(1) = 60 | take() x60
            law(60) = -1
            """);
        holds(49, "NONE: by none; -2: there is no such k", """
            on NOUGHTS
            law(1) = -1 | law(0) = -2 | law(61) = -2 | law(-1) = -2 | law(MIN) = -2 | law(MAX) = -2 | law(60) = -1
            """);
        holds(50, "whose GAIN is greater when a FOOT is put on the CELL of TOP, as bits", """
            on [mount 1 3 3 snow 4 rest 1 names 1 first;folk at 0 names 1 sun 0 snow 1 view 0;folk at 2 names 1 sun 1 snow 0 view 1;folk at 2 names 1 sun 0 snow 0 view 0;]
            raisers() = 3 | height(1) = 3 | count(8) = 0
            on [mount 3 3 0 snow 3 rest 1 names 1 first;folk at 0 names 1 sun 0 snow 1 view 0;folk at 1 names 1 sun 2 snow 0 view 1;]
            raisers() = 2
            on NOUGHTS
            raisers() = 1
            on THREE
            raisers() = 0
            on FULL
            raisers() = 255
            """);
    }

    // ---- promises 51 to 58 ----

    private static void oldHeights() {
        holds(51, "k (0 .. 20) that hold all, as bits (bit k)", """
            on SLOPE
            row(0, 0, 3) = 0 | write(0, 0, 3) = 0 | write(0, 1, 9) = 0 | write(0, 2, 1) = 0 | old(0) = 1048576
            write(0, 2, 0) = 0 | old(0) = 1048575
            write(0, 1, 3) = 0 | old(0) = 3 | write(0, 2, 1) = 0 | old(0) = 2097148
            write(0, 0, 0) = 0 | old(0) = 0 | write(0, 2, 0) = 0 | old(0) = 2097151
            height(0) = 8
            """);
        holds(51, "(a row of no numbers: all hold)", """
            on SLOPE
            row(0, 0, 0) = 0 | old(0) = 2097151 | doubts(0) = 0 | ask(0, 3) = 6 | leaves(0, 3) = 11 | ask(0, 0) = 0 | leaves(0, 0) = 21
            """);
        holds(51, "(sixty numbers, every WIDTH)", """
            on SLOPE
            row(3, 3, 60) = 0 | old(3) = -2 | row(3, 3, 3) = 0 | write(3, 1, -9) = 0 | old(3) = 2097151
            row(2, 3, 60) = 0
            %s
            old(2) = 2097151 | doubts(2) = 20 | write(2, 59, 1) = 0 | old(2) = 0 | doubts(2) = 1 | write(2, 2, 1) = 0 | doubts(2) = 0
            """.replace("%s", pasted(2, 3, 20)));
        holds(51, "on the CELL of TOP as it is now", """
            on [mount 0 0 8 8 snow 40 rest 40 names 1 first;]
            row(0, 0, 3) = 0 | write(0, 0, 0) = 0 | write(0, 1, -4) = 0 | write(0, 2, 1) = 0 | old(0) = 2097150
            take() = 2 | old(0) = 2097120
            on [mount 0 0 8 8 snow 40 rest 40 names 1 last;]
            old(0) = 2097120
            """);
        holds(51, "-2: there is no such SLOT", """
            on SLOPE
            old(-1) = -2 | old(4) = -2 | old(MIN) = -2 | old(MAX) = -2
            """);
        holds(51, "-2: a number is none such", """
            on SLOPE
            row(0, 3, 3) = 0 | old(0) = -2 | write(0, 1, 1) = 0 | old(0) = 2097151 | write(0, 1, 9) = 0 | old(0) = 2097151 | write(0, 1, 10) = 0 | old(0) = -2
            write(0, 1, -9) = 0 | old(0) = 2097151 | write(0, 1, -10) = 0 | old(0) = -2 | write(0, 1, 0) = 0 | old(0) = -2
            write(0, 1, 1) = 0 | write(0, 0, 3) = 0 | write(0, 2, 1) = 0 | old(0) = 2097151 | write(0, 0, 4) = 0 | old(0) = -2 | write(0, 0, -1) = 0 | old(0) = -2
            write(0, 0, 3) = 0 | write(0, 2, 2) = 0 | old(0) = -2 | write(0, 2, -1) = 0 | old(0) = -2 | write(0, 2, 1) = 0 | old(0) = 2097151
            write(0, 0, 0x100000000) = 0 | old(0) = -2 | write(0, 0, 0) = 0 | write(0, 1, 0x100000001) = 0 | old(0) = -2
            write(0, 1, 1) = 0 | write(0, 2, 0x100000001) = 0 | old(0) = -2 | write(0, 2, LMIN) = 0 | old(0) = -2 | write(0, 1, LMAX) = 0 | old(0) = -2
            """);
        holds(51, "-2: a number is none such (the last row of three, too)", """
            on SLOPE
            row(0, 0, 6) = 0 | write(0, 1, 1) = 0 | old(0) = -2 | doubts(0) = -2 | write(0, 4, 1) = 0 | old(0) = 2097151 | write(0, 5, 2) = 0 | old(0) = -2
            write(0, 5, 0) = 0 | write(0, 3, 4) = 0 | old(0) = -2 | doubts(0) = -2 | ask(0, 0) = -2 | leaves(0, 0) = -2
            """);
        holds(51, "-2: not three each", """
            on SLOPE
            row(0, 0, 1) = 0 | old(0) = -2 | row(0, 0, 2) = 0 | write(0, 1, 1) = 0 | old(0) = -2 | row(0, 0, 4) = 0 | write(0, 1, 1) = 0 | old(0) = -2
            doubts(0) = -2 | ask(0, 0) = -2 | leaves(0, 0) = -2
            """);
        holds(51, "-6: it has nothing; -2 is asked ahead of -6", """
            old(0) = -2 | row(0, 0, 0) = 0 | old(0) = -2
            on SLOPE
            old(0) = 2097151 | old(1) = -6 | old(3) = -6 | old(4) = -2
            """);
        holds(52, "the HOUR .. by its number (1 .. 9; 10 .. 18 for -1 .. -9)", """
            on SLOPE
            row(0, 0, 0) = 0 | ask(0, 3) = 6 | leaves(0, 3) = 11 | ask(0, 2) = 9 | leaves(0, 2) = 11
            on [mount 0 0 0 8 snow 40 rest 40 names 1 first;]
            ask(0, 0) = 15 | leaves(0, 0) = 11 | ask(0, 3) = 0
            on [mount 0 0 8 0 0 snow 40 rest 40 names 1 first;]
            ask(0, 1) = 18 | ask(0, 3) = 9 | ask(0, 0) = 18 | ask(0, 4) = 9
            """);
        // Nine CELLS away, TOP shades in HOUR 1 if it is 10 higher, in HOUR 2 if 19.
        holds(52, "(1 .. 9; 10 .. 18 for -1 .. -9): the first of each", """
            on [mount 0 0 0 0 0 0 0 0 0 0 snow 40 rest 40 names 1 first;]
            row(0, 0, 0) = 0 | ask(0, 9) = 1 | leaves(0, 9) = 11 | ask(0, 0) = 0
            on [mount 0 0 0 0 0 0 0 0 0 0 snow 40 rest 40 names 1 last;]
            ask(0, 0) = 10 | leaves(0, 0) = 11 | ask(0, 9) = 0
            """);
        holds(52, "if fewer than now, .. the least of several", """
            on [mount 3 0 0 snow 40 rest 40 names 1 first;]
            row(0, 0, 3) = 0 | write(0, 0, 1) = 0 | write(0, 1, 5) = 0 | old(0) = 7 | ask(0, 1) = 3 | leaves(0, 1) = 2
            write(0, 1, 3) = 0 | old(0) = 1 | ask(0, 1) = 0 | leaves(0, 1) = 1
            """);
        holds(52, "0: none", """
            on SLOPE
            row(0, 0, 6) = 0 | write(0, 0, 3) = 0 | write(0, 1, 5) = 0 | write(0, 2, 1) = 0 | write(0, 3, 3) = 0 | write(0, 4, 5) = 0
            old(0) = 0 | ask(0, 3) = 0 | leaves(0, 3) = 0
            row(1, 0, 0) = 0 | ask(1, 0) = 0 | leaves(1, 0) = 21
            """);
        holds(52, "-2, -6 likewise, no such CELL", """
            ask(0, 0) = -2 | row(0, 0, 0) = 0 | ask(0, 0) = -2
            on SLOPE
            ask(0, 4) = -2 | ask(0, -1) = -2 | ask(0, MIN) = -2 | ask(0, MAX) = -2 | ask(4, 0) = -2 | ask(-1, 0) = -2
            ask(1, 0) = -6 | ask(1, 4) = -2 | ask(1, -1) = -2
            """);
        holds(53, "How many it leaves at worst (as now without)", """
            on SLOPE
            row(0, 0, 0) = 0 | leaves(0, 3) = 11 | leaves(0, 0) = 21
            row(0, 0, 3) = 0 | write(0, 0, 3) = 0 | write(0, 1, 9) = 0 | leaves(0, 3) = 11 | ask(0, 3) = 6 | write(0, 2, 1) = 0 | leaves(0, 3) = 1 | ask(0, 3) = 0
            """);
        holds(53, "-2, -6 likewise", """
            leaves(0, 0) = -2
            on SLOPE
            leaves(0, 0) = -6 | leaves(0, 4) = -2 | leaves(0, -1) = -2 | leaves(4, 0) = -2 | leaves(-1, 0) = -2 | leaves(MIN, MAX) = -2
            """);
        holds(54, "without each of which (left out alone) some k holds all others", """
            on SLOPE
            row(0, 0, 3) = 0 | write(0, 1, 1) = 0 | write(0, 2, 1) = 0 | old(0) = 0 | doubts(0) = 1 | write(0, 2, 0) = 0 | old(0) = 2097151 | doubts(0) = 1
            row(0, 0, 6) = 0 | write(0, 1, 1) = 0 | write(0, 2, 1) = 0 | write(0, 4, 1) = 0 | doubts(0) = 1 | write(0, 5, 1) = 0 | doubts(0) = 0
            write(0, 0, 3) = 0 | write(0, 3, 3) = 0 | write(0, 1, 5) = 0 | write(0, 4, 5) = 0 | doubts(0) = 2 | write(0, 2, 0) = 0 | old(0) = 0 | doubts(0) = 2
            row(0, 0, 0) = 0 | doubts(0) = 0
            """);
        // CELL 0 is never in SHADE; CELL 3 is in HOUR 9 for k 20 alone, and out of it in HOUR 3 for 0 and 1.
        holds(54, "some k: 0, or 20", """
            on SLOPE
            row(0, 0, 9) = 0 | write(0, 1, 1) = 0 | write(0, 2, 1) = 0 | write(0, 3, 3) = 0 | write(0, 4, 9) = 0 | write(0, 5, 1) = 0 | write(0, 6, 3) = 0 | write(0, 7, 9) = 0 | write(0, 8, 1) = 0
            old(0) = 0 | doubts(0) = 1
            on [mount 9 0 0 snow 40 rest 40 names 1 first;]
            row(0, 0, 9) = 0 | write(0, 1, 1) = 0 | write(0, 2, 1) = 0 | write(0, 3, 1) = 0 | write(0, 4, 9) = 0 | write(0, 6, 1) = 0 | write(0, 7, 9) = 0 | old(0) = 0 | doubts(0) = 1
            """);
        holds(54, "-2, -6 as old()", """
            doubts(0) = -2
            on SLOPE
            doubts(0) = -6 | doubts(4) = -2 | doubts(-1) = -2 | doubts(MIN) = -2 | row(0, 0, 3) = 0 | doubts(0) = -2
            """);
    }

    /** Rows of three, CELL 0 in HOUR 1, put behind the first one by pasting. */
    private static String pasted(int slot, int width, int rows) {
        StringBuilder out = new StringBuilder("write(" + slot + ", 1, 1) = 0\n");
        for (int r = 1; r < rows; r++) {
            out.append("paste(").append(slot).append(", 0, ").append(slot).append(", ").append(width * r).append(", ").append(width).append(") = 0\n");
        }
        return out.toString();
    }

    private static void names() {
        holds(55, "each once, below its names", """
            on RIDGE
            row(0, 1, 2) = 0 | stands(0) = 1 | write(0, 1, 11) = 0 | stands(0) = 1 | write(0, 1, 12) = 0 | stands(0) = 0 | struck(0, 1) = 1
            write(0, 0, 2) = 0 | write(0, 1, 4) = 0 | stands(0) = 1 | write(0, 1, 5) = 0 | stands(0) = 0
            row(0, 1, 4) = 0 | stands(0) = 1 | struck(0, 0) = 1 | write(0, 2, 1) = 0 | stands(0) = 2 | struck(0, 0) = 0 | write(0, 2, 0) = 0 | write(0, 3, 1) = 0
            stands(0) = 2 | struck(0, 0) = 0 | struck(0, 1) = 0
            row(0, 1, 6) = 0 | write(0, 1, 1) = 0 | write(0, 3, 2) = 0 | write(0, 4, 1) = 0 | stands(0) = 3 | struck(0, 0) = 0
            """);
        holds(55, "a name of it (0 .. 999)", """
            on RIDGE
            row(0, 1, 2) = 0 | write(0, 1, 999) = 0 | stands(0) = 0 | struck(0, 1) = 1 | write(0, 1, 1000) = 0 | stands(0) = -2 | struck(0, 1) = -2
            write(0, 1, -1) = 0 | stands(0) = -2 | struck(0, 0) = -2 | write(0, 1, 0) = 0 | stands(0) = 1
            """);
        holds(55, "-2: a number is none such (asked last)", """
            on RIDGE
            row(0, 3, 2) = 0 | write(0, 0, 2) = 0 | stands(0) = 1 | write(0, 0, 3) = 0 | stands(0) = -2 | write(0, 0, -1) = 0 | stands(0) = -2
            write(0, 0, 0x100000000) = 0 | stands(0) = -2 | write(0, 0, LMIN) = 0 | stands(0) = -2 | write(0, 0, 0) = 0 | write(0, 1, 0x100000000) = 0 | stands(0) = -2
            row(0, 3, 4) = 0 | write(0, 2, 3) = 0 | stands(0) = -2 | write(0, 2, 0) = 0 | write(0, 3, 1000) = 0 | stands(0) = -2 | struck(0, 0) = -2
            on THREE
            row(0, 0, 2) = 0 | stands(0) = -2 | row(0, 0, 0) = 0 | stands(0) = 0
            """);
        holds(55, "-2: not two each", """
            on RIDGE
            row(0, 0, 1) = 0 | stands(0) = -2 | struck(0, 0) = -2 | row(0, 0, 3) = 0 | stands(0) = -2 | row(0, 0, 59) = 0 | stands(0) = -2 | row(0, 0, 60) = 0 | stands(0) = 1
            """);
        holds(55, "-2: there is no such SLOT, no MOUNTAIN; -6: it has nothing", """
            stands(0) = -2 | row(0, 0, 0) = 0 | stands(0) = -2 | stands(1) = -2
            on RIDGE
            stands(0) = 0 | stands(1) = -6 | stands(4) = -2 | stands(-1) = -2 | stands(MIN) = -2 | stands(MAX) = -2
            """);
        holds(56, "those that are there already (what 0), that it has not (1)", """
            on RIDGE
            row(0, 1, 60) = 0 | stands(0) = 1 | struck(0, 0) = 29 | struck(0, 1) = 0
            write(0, 59, 12) = 0 | stands(0) = 1 | struck(0, 0) = 28 | struck(0, 1) = 1 | write(0, 1, 12) = 0 | stands(0) = 1 | struck(0, 0) = 28 | struck(0, 1) = 1
            row(0, 1, 0) = 0 | struck(0, 0) = 0 | struck(0, 1) = 0
            """);
        holds(56, "-2, -6 likewise, no such what", """
            struck(0, 0) = -2
            on RIDGE
            struck(0, 0) = -6 | struck(0, 1) = -6 | struck(0, 2) = -2 | struck(0, -1) = -2 | struck(4, 0) = -2 | struck(-1, 0) = -2
            row(0, 0, 0) = 0 | struck(0, 2) = -2 | struck(0, -1) = -2 | struck(0, MIN) = -2 | struck(0, MAX) = -2 | struck(0, 1) = 0
            """);
    }

    private static void months() {
        // Draws from 2,000,000,000 are 3304, 7133, 3221, 19807, 6926; of forty, 20 are even.
        holds(57, "x becomes (1103515245 x + 12345) modulo 2,147,483,648", """
            on MONTHS
            drawn(2000000000, 0, 0) = 0 | drawn(2000000000, 1, 0) = 1 | drawn(2000000000, 4, 0) = 1 | drawn(2000000000, 5, 0) = 2 | drawn(2000000000, 40, 0) = 20
            drawn(0, 1, 0) = 1 | drawn(0, 3, 0) = 3 | drawn(0, 4, 0) = 3 | drawn(0, 40, 0) = 21
            """);
        // By eight, from 0: 0 4 4 5 2 7; by seven, from 12345: 6 6 4 5 1 1.
        holds(57, "a draw of as many as FOLK", """
            on [mount 1 1 3 snow 40 rest 40 names 9 first;%sfolk at 0 names 9 sun 0 snow 0 view 0;]
            drawn(0, 5, 0) = 0 | drawn(0, 6, 0) = 1
            on [mount 1 1 3 snow 40 rest 40 names 9 first;%tfolk at 0 names 9 sun 0 snow 0 view 0;]
            drawn(12345, 1, 0) = 1 | drawn(12345, 2, 0) = 2 | drawn(12345, 6, 0) = 2
            """.replace("%s", "folk at 0 names 1 sun 0 snow 0 view 0;".repeat(7)).replace("%t", "folk at 0 names 1 sun 0 snow 0 view 0;".repeat(6)));
        holds(57, "(without: none)", """
            on THREE
            drawn(0, 40, 0) = 0 | drawn(0, 40, 1) = 3 | drawn(0, 40, 2) = 0 | luck(0, 20, 40) = 0
            """);
        holds(57, "if it is ENOUGH by it, a FOOT is taken (none, if TOP is 0)", """
            on NOUGHTS
            drawn(0, 40, 0) = 0 | drawn(0, 40, 1) = 0 | luck(0, 20, 40) = 0 | heap(1) = 1 | drawn(0, 1, 0) = 1 | drawn(0, 40, 0) = 40 | drawn(0, 40, 1) = 1 | luck(0, 20, 1) = 20
            tell(1) = -5 | anew() = 1 | tell(6) = 1 | heap(1) = 1 | drawn(0, 40, 0) = 0 | anew() = 1 | tell(5) = 6 | heap(1) = 1 | drawn(0, 40, 0) = 40
            """);
        // FOLK 0 is WILLING in the first two MONTHS, then no more; from 3 on the draws are 1 1 1 0 0.
        holds(57, "(who is WILLING is asked anew in each MONTH)", """
            on [mount 0 3 0 0 snow 40 rest 40 names 10 first;folk at 0 names 10 sun 1 snow 0 view 0;folk at 0 names 1 sun 0 snow 0 view 0;heap 3;]
            drawn(3, 1, 0) = 1 | drawn(3, 2, 0) = 2 | drawn(3, 1, 1) = 2 | drawn(3, 2, 1) = 2 | drawn(3, 3, 0) = 2 | drawn(3, 4, 0) = 3 | drawn(3, 5, 0) = 4
            """);
        holds(57, "and heaped on the heap's CELL", """
            on [mount 9 6 3 0 snow 40 rest 2 names 1 first;folk at 0 names 1 sun 0 snow 0 view 1;]
            drawn(0, 1, 1) = 8 | drawn(0, 2, 1) = 8 | drawn(0, 1, 2) = 8 | drawn(0, 0, 1) = 9 | drawn(0, 0, 2) = 9
            height(0) = 9 | height(3) = 0 | count(8) = 0
            """);
        holds(57, "n (0 .. 40), a seed (0 .. 2,000,000,000): -2: there are none such", """
            on MONTHS
            drawn(-1, 1, 0) = -2 | drawn(2000000001, 1, 0) = -2 | drawn(MIN, 1, 0) = -2 | drawn(MAX, 1, 0) = -2
            drawn(0, -1, 0) = -2 | drawn(0, 41, 0) = -2 | drawn(0, MIN, 0) = -2 | drawn(0, MAX, 0) = -2
            drawn(0, 0, -1) = -2 | drawn(0, 0, 3) = -2 | drawn(0, 0, MIN) = -2 | drawn(0, 0, MAX) = -2 | drawn(0, 0, 2) = 3 | drawn(0, 0, 1) = 3
            """);
        // First draws by two, from 2,000,000,000 on: 0 0 0 1 1 1 0 0 0 0 1 1 1 0 0 0 1 1 1 0.
        holds(58, "from seeds, the seed and 1, ..", """
            on MONTHS
            luck(2000000000, 1, 1) = 1 | luck(2000000000, 3, 1) = 3 | luck(2000000000, 6, 1) = 3 | luck(2000000000, 7, 1) = 4 | luck(2000000000, 19, 1) = 10
            luck(2000000000, 20, 1) = 11 | luck(0, 20, 0) = 0 | luck(0, 20, 40) = 20 | luck(1, 1, 1) = 1 | luck(3, 1, 1) = 0
            """);
        holds(58, "in how many a FOOT at least is taken", """
            on MONTHS
            luck(3, 1, 0) = 0 | luck(0, 1, 40) = 1 | tell(5) = 10 | luck(0, 20, 1) = 20 | tell(11) = 5 | luck(0, 20, 40) = 0
            """);
        holds(58, "m (1 .. 20): -2: there are none such", """
            on MONTHS
            luck(0, 0, 1) = -2 | luck(0, 21, 1) = -2 | luck(0, -1, 1) = -2 | luck(0, MIN, 1) = -2 | luck(0, MAX, 1) = -2
            luck(-1, 1, 1) = -2 | luck(2000000001, 1, 1) = -2 | luck(0, 1, -1) = -2 | luck(0, 1, 41) = -2 | luck(MAX, 1, 0) = -2 | luck(0, 1, MIN) = -2
            """);
    }

    // ---- promises 59 to 66 ----

    private static void toldAnew() {
        holds(59, "The law's names are n (1 .. 999) from now on: what they were", """
            on RIDGE
            tell(1) = 20 | count(4) = 1 | tell(999) = 1 | count(4) = 999 | first() = -1 | tell(999) = 999
            """);
        holds(59, "-2: there is no such n, no MOUNTAIN", """
            tell(0) = -2 | tell(1) = -2
            on RIDGE
            tell(0) = -2 | tell(1000) = -2 | tell(-1) = -2 | tell(MIN) = -2 | tell(MAX) = -2 | count(4) = 20
            """);
        holds(59, "-5: there are acts that are not taken back; -2 is asked ahead of it", """
            on RIDGE
            take() = 1 | tell(5) = -5 | tell(0) = -2 | tell(1000) = -2 | count(4) = 20 | undo() = 0 | tell(5) = 20 | heap(0) = 0 | tell(6) = -5 | anew() = 1 | tell(6) = 5
            """);
        holds(60, "sun (what 0), snow (1), view (2) is n (0 .. 9) from now on: what it was", """
            on RIDGE
            likes(0, 0, 0) = 3 | likes(0, 1, 9) = 0 | likes(0, 2, 9) = 0 | folk(0, 2) = 0 | folk(0, 3) = 9 | folk(0, 4) = 9 | gain(0) = 99
            likes(2, 1, 0) = 2 | likes(2, 0, 9) = 1 | folk(2, 2) = 9 | folk(2, 3) = 0 | likes(0, 0, 3) = 0
            """);
        holds(60, "-2: there are none such", """
            likes(0, 0, 0) = -2
            on RIDGE
            likes(3, 0, 0) = -2 | likes(-1, 0, 0) = -2 | likes(8, 0, 0) = -2 | likes(MIN, 0, 0) = -2 | likes(MAX, 0, 0) = -2
            likes(0, 3, 0) = -2 | likes(0, -1, 0) = -2 | likes(0, MIN, 0) = -2 | likes(0, MAX, 0) = -2
            likes(0, 0, 10) = -2 | likes(0, 0, -1) = -2 | likes(0, 0, MIN) = -2 | likes(0, 0, MAX) = -2 | folk(0, 2) = 3
            on THREE
            likes(0, 0, 0) = -2
            """);
        holds(60, "-5 likewise; -2 is asked ahead of it", """
            on RIDGE
            take() = 1 | likes(0, 0, 1) = -5 | likes(3, 0, 1) = -2 | likes(0, 3, 1) = -2 | likes(0, 0, 10) = -2 | folk(0, 2) = 3 | undo() = 0 | likes(0, 0, 1) = 3
            """);
        holds(61, "0 CELLS, 1 FOLK, 2 snow's line, 3 rest, 4 the law's names, 5 the heap's CELL, 6 LINES, 7 bytes of the TAPE", """
            on FULL
            count(0) = 10 | count(1) = 8 | count(2) = 40 | count(3) = 40 | count(4) = 999 | count(5) = 9 | count(6) = 10 | count(7) = 0
            on [mount 0 0 0 snow 0 rest 1 names 1 first;]
            count(0) = 3 | count(1) = 0 | count(2) = 0 | count(3) = 1 | count(4) = 1 | count(5) = 0 | count(6) = 1 | feed(0, 0, 0, 0, 0) = 20 | count(7) = 20
            """);
        holds(61, "8 acts that are not taken back", """
            on HIGH
            count(8) = 0 | take() x60
            count(8) = 60 | take() = -5 | count(8) = 60 | undo() = 59 | count(8) = 59 | anew() = 59 | count(8) = 0
            """);
        holds(61, "9 SLOTS that have a row", """
            count(9) = 0 | row(3, 0, 0) = 0 | count(9) = 1 | row(3, 1, 60) = 0 | count(9) = 1 | row(0, 0, 1) = 0 | row(1, 0, 1) = 0 | row(2, 0, 1) = 0 | count(9) = 4
            row(0, 0, -1) = -3 | row(0, 0, 61) = -2 | count(9) = 4
            """);
        holds(61, "5 the heap's CELL (a later one strikes; CELL 0 without)", """
            on [mount 1 2 3 snow 0 rest 1 names 1 first;heap 2;]
            count(5) = 2
            on [mount 1 2 3 snow 0 rest 1 names 1 first;heap 2;heap 1;]
            count(5) = 1
            on [mount 1 2 3 snow 0 rest 1 names 1 first;heap 2;heap 0;]
            count(5) = 0
            on THREE
            count(5) = 0
            """);
        holds(61, "NONE for others", """
            count(10) = -1 | count(-1) = -1 | count(MIN) = -1 | count(MAX) = -1
            on RIDGE
            count(10) = -1 | count(-1) = -1 | count(MIN) = -1 | count(MAX) = -1
            """);
    }

    private static void images() {
        holds(62, "IMAGE k (0 .. 2) keeps the MOUNTAIN, and acts: 0", """
            on HIGH
            image(0) = 0 | take() x60
            image(1) = 0 | mount() = 0 | image(2) = 0
            back(1) = 0 | count(8) = 60 | take() = -5 | tell(1) = -5 | undo() = 59 | back(0) = 0 | count(8) = 0 | tell(9) = 1 | back(2) = 0 | top() = -2 | count(0) = 0
            back(0) = 0 | count(4) = 1 | height(0) = 40 | undo() = -5 | back(1) = 0 | anew() = 60 | height(2) = 40
            """);
        holds(62, "(of no MOUNTAIN)", """
            image(0) = 0 | back(0) = 0 | top() = -2
            on THREE
            back(0) = 0 | top() = -2 | count(0) = 0
            """);
        holds(62, "-2: no such k", """
            image(-1) = -2 | image(3) = -2 | image(MIN) = -2 | image(MAX) = -2 | image(2) = 0
            """);
        holds(63, "It is as IMAGE k has it: 0", """
            on RIDGE
            image(0) = 0 | take() = 1 | likes(0, 0, 0) = -5 | back(0) = 0 | height(1) = 9 | count(8) = 0 | likes(0, 0, 0) = 3 | tell(1) = 20
            back(0) = 0 | folk(0, 2) = 3 | count(4) = 20
            on FULL
            back(0) = 0 | count(0) = 4 | count(1) = 3 | height(4) = -2 | folk(3, 0) = -2 | top() = 1 | count(5) = 3
            """);
        holds(63, "(an IMAGE is kept anew in place of another)", """
            on THREE
            image(2) = 0 | take() = 2 | image(2) = 0 | take() = 1 | back(2) = 0 | count(8) = 1 | height(1) = 2 | height(2) = 2
            """);
        holds(63, "(and acts: which ones, not only how many)", """
            on THREE
            take() = 2 | image(0) = 0 | undo() = 0 | heap(0) = 0 | image(1) = 0 | back(0) = 0 | undo() = 0 | height(0) = 1 | height(2) = 3
            back(1) = 0 | height(0) = 2 | undo() = 0 | height(0) = 1 | height(2) = 3 | take() = 2 | back(1) = 0 | anew() = 1 | height(0) = 1 | height(2) = 3
            """);
        holds(63, "-2: no such k; -6: it has nothing", """
            back(-1) = -2 | back(3) = -2 | back(MIN) = -2 | back(MAX) = -2 | back(0) = -6 | back(1) = -6 | back(2) = -6
            on THREE
            image(1) = 0 | back(0) = -6 | back(2) = -6 | back(3) = -2 | back(1) = 0
            """);
    }

    private static void rows() {
        holds(64, "A SLOT (0 .. 3) has a row of n numbers of a WIDTH, all 0 (in place of another one): 0", """
            on RIDGE
            row(0, 0, 0) = 0 | write(0, 0, 1) = -7 | row(0, 0, 60) = 0 | write(0, 59, 1) = 0 | write(0, 60, 1) = -7
            row(3, 3, 4) = 0 | write(3, 1, 1) = 0 | write(3, 3, 2) = 0 | stands(3) = 2 | row(3, 3, 4) = 0 | stands(3) = 1 | struck(3, 0) = 1
            row(3, 1, 2) = 0 | write(3, 2, 0) = -7 | stands(3) = 1
            row(3, 1, 4) = 0 | stands(3) = 1
            """);
        holds(64, "-2: there is no such SLOT or WIDTH (0 .. 3), or n is above 60", """
            row(-1, 0, 1) = -2 | row(4, 0, 1) = -2 | row(MIN, 0, 1) = -2 | row(MAX, 0, 1) = -2
            row(0, -1, 1) = -2 | row(0, 4, 1) = -2 | row(0, MIN, 1) = -2 | row(0, MAX, 1) = -2
            row(0, 0, 61) = -2 | row(0, 0, MAX) = -2 | count(9) = 0 | row(0, 3, 60) = 0 | row(0, 4, 3) = -2 | row(0, 0, 61) = -2 | write(0, 59, 7) = 0
            row(4, 0, -1) = -2 | row(0, 4, -1) = -2
            """);
        holds(64, "-3, and the SLOT stays: n is below 0", """
            on RIDGE
            row(0, 0, -1) = -3 | row(0, 0, MIN) = -3 | count(9) = 0 | write(0, 0, 0) = -6
            row(0, 1, 4) = 0 | write(0, 3, 300) = 0 | row(0, 0, -1) = -3 | row(0, 3, MIN) = -3 | struck(0, 1) = 1 | stands(0) = 1 | write(0, 3, 301) = 0 | struck(0, 1) = 1
            """);
        holds(65, "v, cut to its WIDTH", """
            on RIDGE
            row(0, 0, 2) = 0 | write(0, 1, 127) = 0 | struck(0, 1) = 1 | write(0, 1, 128) = 0 | stands(0) = -2 | write(0, 1, 255) = 0 | stands(0) = -2 | write(0, 1, 256) = 0 | stands(0) = 1
            write(0, 1, -256) = 0 | stands(0) = 1 | write(0, 1, -1) = 0 | stands(0) = -2 | write(0, 1, LMAX) = 0 | stands(0) = -2 | write(0, 1, LMIN) = 0 | stands(0) = 1
            row(0, 1, 2) = 0 | write(0, 1, 999) = 0 | struck(0, 1) = 1 | write(0, 1, 32768) = 0 | stands(0) = -2 | write(0, 1, 65535) = 0 | stands(0) = -2 | write(0, 1, 65536) = 0 | stands(0) = 1
            row(0, 2, 2) = 0 | write(0, 1, 65536) = 0 | stands(0) = -2 | write(0, 1, 0x80000000) = 0 | stands(0) = -2 | write(0, 1, 0x100000000) = 0 | stands(0) = 1 | write(0, 1, LMIN) = 0 | stands(0) = 1
            row(0, 3, 2) = 0 | write(0, 1, 0x100000000) = 0 | stands(0) = -2 | write(0, 1, LMIN) = 0 | stands(0) = -2 | write(0, 1, LMAX) = 0 | stands(0) = -2 | write(0, 1, 11) = 0 | stands(0) = 1
            """);
        holds(65, "(a number below 0 stays so in every WIDTH)", """
            on SLOPE
            row(0, 0, 3) = 0 | write(0, 1, -9) = 0 | old(0) = 2097151 | write(0, 1, 247) = 0 | old(0) = 2097151 | write(0, 1, 246) = 0 | old(0) = -2
            row(0, 1, 3) = 0 | write(0, 1, -9) = 0 | old(0) = 2097151 | write(0, 1, 65527) = 0 | old(0) = 2097151 | write(0, 1, 247) = 0 | old(0) = -2
            row(0, 2, 3) = 0 | write(0, 1, -9) = 0 | old(0) = 2097151 | write(0, 1, 0xfffffff7) = 0 | old(0) = 2097151 | write(0, 1, 65527) = 0 | old(0) = -2
            row(0, 3, 3) = 0 | write(0, 1, -9) = 0 | old(0) = 2097151 | write(0, 1, 0xfffffff7) = 0 | old(0) = -2
            """);
        holds(65, "-2: there is no such SLOT; -6: it has nothing; -7: there is no such number", """
            write(-1, 0, 0) = -2 | write(4, 0, 0) = -2 | write(MIN, 0, 0) = -2 | write(MAX, 0, 0) = -2 | write(0, 0, 0) = -6 | write(3, -1, 0) = -6
            row(0, 0, 0) = 0 | write(0, 0, 0) = -7 | write(0, -1, 0) = -7 | row(0, 0, 1) = 0 | write(0, 0, 0) = 0 | write(0, 1, 0) = -7 | write(0, -1, 0) = -7
            write(0, MIN, 0) = -7 | write(0, MAX, 0) = -7 | write(0, 59, 0) = -7 | row(0, 0, 60) = 0 | write(0, 59, 0) = 0 | write(0, 60, 0) = -7
            """);
    }

    private static void pastes() {
        String two = "on RIDGE\nrow(0, 1, 6) = 0 | write(0, 1, 1) = 0 | write(0, 3, 2) = 0 | write(0, 5, 3) = 0 | row(1, 1, 4) = 0\n";
        holds(66, "are put to another one's", two + """
            stands(0) = 3 | stands(1) = 1 | paste(0, 0, 1, 0, 4) = 0 | stands(1) = 2 | paste(0, 5, 1, 3, 1) = 0 | stands(1) = 2 | write(1, 1, 3) = 0 | stands(1) = 1 | stands(0) = 3
            """);
        holds(66, "(or its own) .. as they were", two + """
            paste(0, 0, 0, 2, 4) = 0 | stands(0) = 2 | struck(0, 0) = 1 | write(0, 1, 2) = 0 | struck(0, 0) = 1 | write(0, 1, 5) = 0 | stands(0) = 3
            row(0, 1, 6) = 0 | write(0, 1, 1) = 0 | write(0, 3, 2) = 0 | write(0, 5, 3) = 0 | paste(0, 2, 0, 0, 4) = 0 | stands(0) = 2 | write(0, 3, 1) = 0 | stands(0) = 3
            paste(0, 0, 0, 0, 6) = 0 | stands(0) = 3
            """);
        holds(66, "(none, and all of sixty)", """
            on RIDGE
            row(0, 1, 60) = 0 | row(1, 1, 60) = 0 | write(0, 59, 5) = 0 | paste(0, 0, 1, 0, 60) = 0 | stands(1) = 2 | paste(0, 60, 1, 60, 0) = 0 | paste(0, 0, 1, 0, 0) = 0
            paste(0, 1, 1, 0, 60) = -7 | paste(0, 0, 1, 1, 60) = -7 | paste(0, 0, 1, 0, 61) = -7 | row(2, 1, 0) = 0 | paste(2, 0, 2, 0, 0) = 0 | paste(2, 0, 2, 0, 1) = -7
            """);
        holds(66, "-2: there is no such SLOT", two + """
            paste(-1, 0, 1, 0, 1) = -2 | paste(4, 0, 1, 0, 1) = -2 | paste(0, 0, -1, 0, 1) = -2 | paste(0, 0, 4, 0, 1) = -2
            paste(MIN, 0, MAX, 0, 1) = -2 | paste(4, 0, 3, 0, 1) = -2 | paste(3, 0, 4, 0, 1) = -2 | paste(4, -1, 0, -1, -1) = -2
            """);
        holds(66, "-6: one has nothing", two + """
            paste(0, 0, 2, 0, 1) = -6 | paste(2, 0, 0, 0, 1) = -6 | paste(2, 0, 3, 0, 0) = -6 | paste(2, 0, 2, 0, 0) = -6 | paste(0, -1, 2, 0, 1) = -6 | count(9) = 2
            """);
        holds(66, "-8: they are not of one WIDTH", two + """
            row(2, 0, 6) = 0 | row(3, 2, 6) = 0 | paste(0, 0, 2, 0, 1) = -8 | paste(2, 0, 0, 0, 1) = -8 | paste(0, 0, 3, 0, 1) = -8 | paste(0, 0, 2, 0, 0) = -8
            paste(0, 9, 2, 9, 9) = -8 | paste(0, -1, 2, -1, -1) = -8 | row(3, 1, 6) = 0 | paste(0, 0, 3, 0, 6) = 0 | stands(3) = 3
            """);
        holds(66, "-7, and nothing happens: some are beyond their rows", two + """
            paste(0, 3, 1, 0, 4) = -7 | paste(0, 0, 1, 1, 4) = -7 | paste(0, 6, 1, 0, 1) = -7 | paste(0, 0, 1, 4, 1) = -7 | paste(0, 0, 1, 0, 5) = -7
            paste(0, 1, 1, 0, MAX) = -7 | paste(0, MAX, 1, 0, 1) = -7 | paste(0, 0, 1, MAX, 1) = -7 | paste(0, MAX, 1, MAX, MAX) = -7 | stands(1) = 1 | stands(0) = 3
            """);
        holds(66, "-7: or a place or n is below 0", two + """
            paste(0, -1, 1, 0, 1) = -7 | paste(0, 0, 1, -1, 1) = -7 | paste(0, 0, 1, 0, -1) = -7 | paste(0, MIN, 1, 0, 1) = -7 | paste(0, 0, 1, MIN, 1) = -7
            paste(0, 0, 1, 0, MIN) = -7 | paste(0, -1, 1, -1, 0) = -7 | paste(0, 1, 1, 1, -1) = -7 | stands(1) = 1 | stands(0) = 3
            """);
    }
}
