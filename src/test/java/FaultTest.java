import java.math.BigInteger;
import java.nio.charset.StandardCharsets;
import java.util.Arrays;
import java.util.List;
import java.util.regex.Matcher;
import java.util.regex.Pattern;

/**
 * The boundaries of the text (term I, promises 2 to 5): which TOKEN can stand where, the bounds of every number,
 * and the place of the first FAULT. In a text here a ! is no byte of it: it marks where the FAULT is.
 */
public final class FaultTest {
    /** A TOKEN of a text, and all that could stand in its place: words, ;, # for a number, $ for the end. */
    private record Spot(String token, String allowed) { }

    private static final Spot[] GRAMMAR = {
        spot("mount", "mount $"), spot("1", "#"), spot("2", "#"), spot("3", "#"), spot("snow", "snow #"), spot("1", "#"), spot("rest", "rest"),
        spot("1", "#"), spot("names", "names"), spot("1", "#"), spot("first", "first last"), spot(";", ";"),
        spot("folk", "folk heap $"), spot("at", "at"), spot("0", "#"), spot("names", "names"), spot("1", "#"), spot("sun", "sun"), spot("1", "#"),
        spot("snow", "snow"), spot("1", "#"), spot("view", "view"), spot("1", "#"), spot(";", "; talk"),
        spot("folk", "folk heap $"), spot("at", "at"), spot("0", "#"), spot("names", "names"), spot("1", "#"), spot("sun", "sun"), spot("1", "#"),
        spot("snow", "snow"), spot("1", "#"), spot("view", "view"), spot("1", "#"), spot("talk", "talk ;"), spot("1", "#"), spot("with", "with"),
        spot("0", "#"), spot("0", "# ;"), spot(";", "# ;"),
        spot("heap", "folk heap $"), spot("0", "#"), spot(";", ";")};

    private static final String[] CANDIDATES = {"mount", "snow", "rest", "names", "first", "last", "folk", "at", "sun", "view", "talk", "with", "heap", ";",
        "#number", "$", "a", "mounts", "fol", "z", "-", "#", "A", ",", "\t", "\r", "\0", "\u007f", "\u0080", "\u00ff", "`", "{", "/", ":"};

    private static final String MOUNT = "mount 0 1 2 snow 1 rest 1 names 1 last;";
    private static final String FOLK = "folk at 0 names 1 sun 1 snow 1 view 1;";
    private static final String TALKER = "folk at 0 names 1 sun 1 snow 1 view 1 talk 1 with 0;";
    private static final String TEN = "mount 0 0 0 0 0 0 0 0 0 0 ";

    private static int wrong = 0;
    private static int asked = 0;

    private static Spot spot(String token, String allowed) {
        return new Spot(token, allowed);
    }

    private static void must(boolean holds, String what) {
        asked++;
        if (!holds) {
            wrong++;
            System.out.println("not as it must be: " + what.replace("\n", "\\n"));
        }
    }

    /** What mount() of a text answers, then its FAULT and place. */
    private static int[] mount(String text) {
        FootLower x = new FootLower();
        byte[] bytes = text.getBytes(StandardCharsets.ISO_8859_1);
        byte[] padded = Arrays.copyOf(bytes, (bytes.length + 19) / 20 * 20);
        for (int i = 0; i < padded.length; i += 20) {
            int[] five = new int[5];
            for (int k = 0; k < 20; k++) {
                five[k / 4] = five[k / 4] << 8 | padded[i + k] & 255;
            }
            x.feed(five[0], five[1], five[2], five[3], five[4]);
        }
        must(x.end(bytes.length) == bytes.length, "the TAPE takes " + text);
        int lines = x.mount();
        must(x.count(6) == Math.max(0, lines), "LINES of " + text);
        must(x.count(7) == 0, "the TAPE is empty behind " + text);
        return new int[] {lines, x.fault(0), x.fault(1)};
    }

    private static void fault(int kind, String marked) {
        int place = marked.indexOf('!');
        String text = marked.substring(0, place) + marked.substring(place + 1);
        int[] due = {-4, kind, place};
        int[] got = mount(text);
        must(Arrays.equals(got, due), "mount() and FAULT of " + marked + ": " + Arrays.toString(got) + ", due is " + Arrays.toString(due));
    }

    private static void fine(String text, int lines) {
        int[] due = {lines, 0, -1};
        int[] got = mount(text);
        must(Arrays.equals(got, due), "mount() of " + text + ": " + Arrays.toString(got) + ", due is " + Arrays.toString(due));
    }

    public static void main(String[] args) {
        whatCanStand();
        blanks();
        longestTokens();
        strayWords();
        bounds();
        tooMany();
        firstByPlace();
        theEnd();
        nothing();
        System.out.println(wrong == 0 ? asked + " answers are as due" : wrong + " answers are not as due");
        if (wrong != 0) {
            System.exit(1);
        }
    }

    /** "1 a TOKEN that is none, or can't stand there": every TOKEN in every place. */
    private static void whatCanStand() {
        StringBuilder ahead = new StringBuilder();
        for (Spot s : GRAMMAR) {
            for (String named : CANDIDATES) {
                List<String> allowed = Arrays.asList(s.allowed.split(" "));
                boolean number = named.equals("#number");
                String candidate = !number ? named : s.token.matches("[0-9]+") ? s.token : "0";
                boolean stands = number ? allowed.contains("#") : !candidate.equals("#") && allowed.contains(candidate);
                if (!stands) {
                    fault(1, ahead + "!" + (candidate.equals("$") ? "" : candidate));
                    fault(1, ahead + "!" + (candidate.equals("$") ? "" : candidate + " ;"));
                } else if (!candidate.equals("$")) {
                    // It is the end behind it that can't stand there, but for a LINE that is whole.
                    String text = ahead + candidate;
                    if (candidate.equals(";")) {
                        fine(text, text.replaceAll("[^;]", "").length());
                    } else {
                        fault(1, text + "!");
                    }
                } else {
                    fine(ahead.toString(), ahead.toString().replaceAll("[^;]", "").length());
                }
            }
            ahead.append(s.token).append(' ');
        }
        fine(ahead.toString(), 4);
        // "mount is the first LINE and no other"
        fault(1, MOUNT + "!" + MOUNT);
        fault(1, MOUNT + FOLK + "!" + MOUNT);
        fault(1, "!" + FOLK + MOUNT);
        fault(1, "!heap 0;" + MOUNT);
        // "snow behind fewer than 3 heights"
        fault(1, "mount !snow 1 rest 1 names 1 last;");
        fault(1, "mount 1 !snow 1 rest 1 names 1 last;");
        fault(1, "mount 1 2 !snow 1 rest 1 names 1 last;");
        fine("mount 1 2 3 snow 1 rest 1 names 1 last;", 1);
        fine(TEN + "snow 1 rest 1 names 1 first;", 1);
    }

    /** "TOKENS, blanks (32, 10) aside": no other byte is a blank. */
    private static void blanks() {
        for (int b = 0; b < 256; b++) {
            char c = (char) b;
            if (c == 32 || c == 10) {
                fine(c + MOUNT + c + FOLK + c, 2);
                fine(MOUNT.replace(' ', c), 1);
            } else if (c != '!') {
                boolean known = c == ';' || c >= '0' && c <= '9' || c >= 'a' && c <= 'z';
                fault(1, MOUNT + "!" + c);
                fault(1, known && c >= 'a' ? "!" + c + MOUNT : "!" + c + " " + MOUNT);
            } else {
                int[] got = mount(MOUNT + c);
                must(Arrays.equals(got, new int[] {-4, 1, MOUNT.length()}), "a ! is no TOKEN");
            }
        }
        fine("\n\n  mount\n1\n\n2 3\nsnow\n1 rest 1 names 1 last\n;\n", 1);
    }

    /** "the longest: words (a .. z), numbers (digits), the sign ;" */
    private static void longestTokens() {
        fine("mount1 2 3snow1rest1names1first;folk at0names1sun1snow1view1;folk at0names1sun1snow1view1talk1with0 0;heap2;", 4);
        fault(1, "!mountmount 1 2 3");
        fault(1, MOUNT.replace("last", "!lastfirst"));
        fault(1, MOUNT + "!folkat 0");
        fault(1, "!moun t 1 2 3");
        fault(1, MOUNT.replace("rest 1", "!re st 1"));
        // Two digits are one number; with a blank between them they are two.
        fine("mount 10 20 30 snow 40 rest 10 names 100 last;", 1);
        fault(1, "mount 10 20 30 snow 4 !0 rest 10 names 100 last;");
        fault(1, MOUNT + "!;");
        fault(1, MOUNT.replace("last;", "!lastx;"));
        fault(1, MOUNT.replace("last;", "last !x;"));
    }

    /** No word may have another letter, one less, or one more. */
    private static void strayWords() {
        for (String text : new String[] {MOUNT + FOLK + TALKER + "heap 0;", MOUNT.replace("last", "first")}) {
            Matcher word = Pattern.compile("[a-z]+").matcher(text);
            while (word.find()) {
                String ahead = text.substring(0, word.start()) + "!";
                String behind = text.substring(word.end());
                String right = word.group();
                int last = right.length() - 1;
                for (String other : new String[] {"z" + right.substring(1), right.substring(0, last) + "z", right.substring(1), right.substring(0, last),
                    right + "a", right + "z", "a" + right, "z" + right, right + right}) {
                    fault(1, ahead + other + behind);
                }
            }
        }
    }

    /** A number between two texts: fine at its bounds, FAULT 2 beyond them, however long it is. */
    private static void bound(String ahead, int least, int most, String behind) {
        fine(ahead + least + behind, lines(ahead + behind));
        fine(ahead + most + behind, lines(ahead + behind));
        fine(ahead + "0" + most + behind, lines(ahead + behind));
        fine(ahead + "0".repeat(300) + least + behind, lines(ahead + behind));
        if (least > 0) {
            fault(2, ahead + "!" + (least - 1) + behind);
            fault(2, ahead + "!000" + (least - 1) + behind);
        }
        fault(2, ahead + "!" + (most + 1) + behind);
        fault(2, ahead + "!00" + (most + 1) + behind);
        for (int power : new int[] {8, 16, 31, 32, 63, 64, 128}) {
            BigInteger wrap = BigInteger.TWO.pow(power);
            if (power > 8 || most < 256) {
                fault(2, ahead + "!" + wrap.add(BigInteger.valueOf(least)) + behind);
                fault(2, ahead + "!" + wrap.add(BigInteger.valueOf(most)) + behind);
            }
        }
        fault(2, ahead + "!" + "9".repeat(200) + behind);
        // The bound is looked at where the number stands, whatever comes behind it.
        fault(2, ahead + "!" + (most + 1));
        fault(2, ahead + "!" + (most + 1) + "#");
    }

    private static int lines(String text) {
        return text.replaceAll("[^;]", "").length();
    }

    /** "2 a number out of its bounds, not as said" */
    private static void bounds() {
        bound("mount ", 0, 40, " 2 3 snow 1 rest 1 names 1 first;");
        bound("mount 1 2 ", 0, 40, " snow 1 rest 1 names 1 first;");
        bound("mount 0 0 0 0 0 0 0 0 0 ", 0, 40, " snow 1 rest 1 names 1 first;");
        bound("mount 1 2 3 snow ", 0, 40, " rest 1 names 1 first;");
        bound("mount 1 2 3 snow 1 rest ", 1, 40, " names 1 first;");
        bound("mount 1 2 3 snow 1 rest 1 names ", 1, 999, " first;");
        bound(MOUNT + "folk at ", 0, 2, " names 1 sun 1 snow 1 view 1;");
        bound(TEN + "snow 1 rest 1 names 1 first;folk at ", 0, 9, " names 1 sun 1 snow 1 view 1;");
        bound(MOUNT + "folk at 0 names ", 1, 99, " sun 1 snow 1 view 1;");
        bound(MOUNT + "folk at 0 names 1 sun ", 0, 9, " snow 1 view 1;");
        bound(MOUNT + "folk at 0 names 1 sun 1 snow ", 0, 9, " view 1;");
        bound(MOUNT + "folk at 0 names 1 sun 1 snow 1 view ", 0, 9, ";");
        bound(MOUNT + FOLK + "folk at 0 names 1 sun 1 snow 1 view 1 talk ", 1, 7, " with 0;");
        bound(MOUNT + FOLK + FOLK + FOLK + "folk at 0 names 1 sun 1 snow 1 view 1 talk 1 with ", 0, 2, ";");
        bound(MOUNT + FOLK + FOLK + FOLK + "folk at 0 names 1 sun 1 snow 1 view 1 talk 1 with 0 ", 0, 2, " 1;");
        bound(MOUNT + FOLK.repeat(7) + "folk at 0 names 1 sun 1 snow 1 view 1 talk 7 with ", 0, 6, ";");
        bound(MOUNT + "heap ", 0, 2, ";");
        bound(TEN + "snow 1 rest 1 names 1 first;heap ", 0, 9, ";");
        bound("mount 1 2 3 4 snow 1 rest 1 names 1 first;heap 0;heap ", 0, 3, ";");
        // "F FOLK told ahead": the first has none ahead of it, and nobody talks to itself or to a later one
        fault(2, MOUNT + "folk at 0 names 1 sun 1 snow 1 view 1 talk 1 with !0;");
        fault(2, MOUNT + FOLK + "folk at 0 names 1 sun 1 snow 1 view 1 talk 1 with !1;" + FOLK);
        fault(2, MOUNT + FOLK + "folk at 0 names 1 sun 1 snow 1 view 1 talk 1 with 0 !2;" + FOLK);
        // "(like ones count once)": they may stand there, as often as one likes
        fine(MOUNT + FOLK + "folk at 0 names 1 sun 1 snow 1 view 1 talk 7 with" + " 0".repeat(300) + ";", 3);
    }

    /** "3 a 9th folk, at its word; an 11th height, at it, if it is 0 .. 40" */
    private static void tooMany() {
        String eight = MOUNT + FOLK.repeat(8);
        fine(MOUNT + FOLK.repeat(7), 8);
        fine(eight, 9);
        fine(eight + "heap 1;heap 2;", 11);
        fault(3, eight + "!folk");
        fault(3, eight + "!" + FOLK);
        fault(3, eight + "!" + TALKER);
        fault(3, eight + "!folk at 99 x");
        fault(3, eight + "heap 1;\n !folk;");
        fault(1, eight + "!folks at 0");
        fault(1, eight + "!mount");
        fault(1, MOUNT + FOLK.repeat(7) + "folk at !folk");
        fine(MOUNT + FOLK + TALKER.repeat(7), 9);
        fine(TEN + "snow 0 rest 1 names 1 first;", 1);
        for (int height : new int[] {0, 1, 39, 40}) {
            fault(3, TEN + "!" + height);
            fault(3, TEN + "!" + height + " snow 0 rest 1 names 1 first;");
            fault(3, TEN + "!" + height + " 41 x");
            fault(3, TEN + "!00" + height + " 1 2 3");
        }
        // "of one place the least"
        fault(2, TEN + "!41");
        fault(2, TEN + "!41 snow 0 rest 1 names 1 first;");
        fault(2, TEN + "!4294967296 snow 0 rest 1 names 1 first;");
        fault(2, "mount 0 0 0 0 0 0 0 0 0 !41 0 snow");
    }

    /** "FAULTS, the first by its place" */
    private static void firstByPlace() {
        fault(2, "mount !41 x");
        fault(1, "mount !x 41");
        fault(2, "mount 1 2 3 snow !41 rest 0 names 0 middle;");
        fault(2, "mount 1 2 3 snow 40 rest !0 names 0 middle;");
        fault(2, "mount 1 2 3 snow 40 rest 1 names !0 middle;");
        fault(1, "mount 1 2 3 snow 40 rest 1 names 1 !middle;#");
        fault(1, "mount !# 1 2 3 4 5 6 7 8 9 10 11");
        fault(1, MOUNT + "!#" + FOLK.repeat(9));
        fault(3, MOUNT + FOLK.repeat(8) + "!" + FOLK + "#");
        fault(2, MOUNT + FOLK.repeat(7) + "folk at !3 names 0;" + FOLK.repeat(2));
    }

    /** "(a TOKEN's first byte; the end's)": the end is behind all bytes, blanks too. */
    private static void theEnd() {
        fault(1, "mount!");
        fault(1, "mount !");
        fault(1, "mount\n\n!");
        fault(1, "mount 1 2 3!");
        fault(1, MOUNT.substring(0, MOUNT.length() - 1) + "!");
        fault(1, MOUNT.substring(0, MOUNT.length() - 1) + " \n !");
        fault(1, MOUNT + FOLK.substring(0, FOLK.length() - 1) + "!");
        fault(1, MOUNT + "heap 0!");
        // A full TAPE, 900 bytes.
        fault(1, "mount" + " ".repeat(895) + "!");
        fault(1, " ".repeat(895) + "mount!");
        fault(1, MOUNT + " ".repeat(900 - MOUNT.length() - 1) + "!#");
        fine(MOUNT + " ".repeat(900 - MOUNT.length()), 1);
        fine(" ".repeat(900 - MOUNT.length()) + MOUNT, 1);
        int heaps = (900 - MOUNT.length()) / 6;
        fine((MOUNT + "heap2;".repeat(heaps) + "   ").substring(0, 900), heaps + 1);
        fault(2, "mount !" + "1".repeat(894));
        fault(1, "!" + "m".repeat(900));
        fault(1, "!" + ";".repeat(900));
        fault(3, "mount" + " 1".repeat(10) + " !1" + " 1".repeat(436));
    }

    /** "how many LINES (0: there is none then)" */
    private static void nothing() {
        fine("", 0);
        fine(" ", 0);
        fine("\n", 0);
        fine(" \n".repeat(450), 0);
        fine(MOUNT, 1);
    }
}
