import java.nio.charset.StandardCharsets;
import java.util.Arrays;

/**
 * Each promise of the document, by examples whose answers were worked out by hand: ordinary ones, the edges
 * that the document names, and calls that must be refused.
 */
public final class PromiseTest {
    /*
     * Heights 3 9 4 0. LIGHT: CELL 0 has 13 HOURS (CELL 1 shades it in -1 .. -5), 1 has 18, 2 has 14 (1 .. 4),
     * 3 has 14 (9 above it, two away: 1 .. 4). GAIN: 42, 9, 17.
     */
    private static final String RIDGE = "mount 3 9 4 0 snow 4 rest 2 names 20 first;"
        + "folk at 2 names 12 sun 3 snow 0 view 0;"
        + "folk at 3 names 9 sun 0 snow 0 view 1 talk 1 with 0;"
        + "folk at 0 names 5 sun 1 snow 2 view 0;"
        + "heap 3;";

    /* FOLK 0 is WILLING; it brings 1, both bring 2; 3 has no talk; 4 needs 2 and 3. */
    private static final String TALK = "mount 0 9 0 snow 40 rest 1 names 30 first;"
        + "folk at 0 names 10 sun 1 snow 0 view 0;"
        + "folk at 1 names 7 sun 0 snow 0 view 1 talk 1 with 0;"
        + "folk at 1 names 5 sun 0 snow 0 view 1 talk 2 with 0 1 0;"
        + "folk at 1 names 20 sun 0 snow 0 view 1;"
        + "folk at 1 names 3 sun 0 snow 0 view 1 talk 2 with 3 2;";

    /* WILLING: at 0, 2, 6 and 8, with 5, 3, 4 and 6 names; at 5 there is one who isn't. */
    private static final String WALK = "mount 0 0 0 0 13 0 0 0 0 snow 40 rest 40 names 1 first;"
        + "folk at 0 names 5 sun 1 snow 0 view 0;"
        + "folk at 2 names 3 sun 1 snow 0 view 0;"
        + "folk at 6 names 4 sun 1 snow 0 view 0;"
        + "folk at 8 names 6 sun 1 snow 0 view 0;"
        + "folk at 5 names 50 sun 0 snow 0 view 9;";

    /* Nobody is WILLING; it is ENOUGH by FOLK 0 alone. */
    private static final String MONTHS = "mount 1 1 3 snow 40 rest 40 names 10 first;"
        + "folk at 0 names 10 sun 0 snow 0 view 1; folk at 0 names 5 sun 0 snow 0 view 0;";

    /* More than 68 FEET go by any law of one name. */
    private static final String LONG = "mount 11 10 27 18 10 38 1 19 9 19 snow 40 rest 40 names 1 last;"
        + sunny(6) + sunny(7) + sunny(4) + sunny(3) + sunny(0) + sunny(8) + sunny(5) + sunny(1);

    private static final int ALL_OLD = 2097151;
    private static final int FAR = Integer.MAX_VALUE;
    private static final int DEEP = Integer.MIN_VALUE;

    private static int wrong = 0;
    private static int asked = 0;

    private static void due(int promise, String call, long got, long want) {
        asked++;
        if (got != want) {
            wrong++;
            System.out.println("promise " + promise + ": " + call + " answered " + got + ", due is " + want);
        }
    }

    private static String sunny(int cell) {
        return "folk at " + cell + " names 1 sun 1 snow 0 view 0;";
    }

    /** A mountain of these heights, without FOLK. */
    private static String bare(String heights, int rest, String side) {
        return "mount " + heights + " snow 2 rest " + rest + " names 1 " + side + ";";
    }

    private static int feed(FootLower x, String text) {
        byte[] bytes = text.getBytes(StandardCharsets.ISO_8859_1);
        byte[] padded = Arrays.copyOf(bytes, (bytes.length + 19) / 20 * 20);
        int ahead = x.count(7);
        for (int i = 0; i < padded.length; i += 20) {
            int[] five = new int[5];
            for (int k = 0; k < 20; k++) {
                five[k / 4] = five[k / 4] << 8 | padded[i + k] & 255;
            }
            x.feed(five[0], five[1], five[2], five[3], five[4]);
        }
        return x.end(ahead + bytes.length);
    }

    private static int mount(FootLower x, String text) {
        feed(x, text);
        return x.mount();
    }

    private static FootLower on(String text) {
        FootLower x = new FootLower();
        due(4, "mount() of a text without FAULT: " + text, mount(x, text) > 0 ? 1 : 0, 1);
        return x;
    }

    public static void main(String[] args) {
        newObject();
        tape();
        mounts();
        faults();
        facts();
        shadeAndLight();
        gains();
        acts();
        manyActs();
        signers();
        whomToWin();
        plays();
        rounds();
        twoGatherers();
        water();
        sight();
        votes();
        shapes();
        spoils();
        courses();
        oldHeights();
        oldRefused();
        struckNames();
        months();
        toldAnew();
        counts();
        images();
        rows();
        pastes();
        noMountain();
        System.out.println(wrong == 0 ? asked + " answers are as due" : wrong + " answers are not as due");
        if (wrong != 0) {
            System.exit(1);
        }
    }

    private static void newObject() {
        FootLower x = new FootLower();
        for (int what = 0; what <= 9; what++) {
            due(1, "count(" + what + ") of a new object", x.count(what), 0);
        }
        due(1, "top() of a new object", x.top(), -2);
        due(1, "NONE", FootLower.NONE, -1);
    }

    private static void tape() {
        FootLower x = new FootLower();
        for (int i = 1; i <= 45; i++) {
            due(2, "feed " + i, x.feed(1, 2, 3, 4, 5), 20 * i);
        }
        due(2, "feed beyond 900", x.feed(1, 2, 3, 4, 5), -1);
        due(2, "count(7), none came", x.count(7), 900);
        due(3, "end(881)", x.end(881), 881);
        due(2, "feed to 901", x.feed(1, 2, 3, 4, 5), -1);
        due(3, "end(880)", x.end(880), 880);
        due(2, "feed to 900", x.feed(1, 2, 3, 4, 5), 900);
        due(3, "end(901)", x.end(901), -1);
        due(3, "end(-1)", x.end(-1), -1);
        due(3, "end(DEEP)", x.end(DEEP), -1);
        due(3, "end(FAR)", x.end(FAR), -1);
        due(3, "count(7), nothing happened", x.count(7), 900);
        due(3, "end(900)", x.end(900), 900);
        due(3, "end(0)", x.end(0), 0);
        due(3, "count(7)", x.count(7), 0);

        // "moun" "t 3 " "9 4 " "0 sn" "ow 4" " res" "t 2 " "name" "s 20" " fir" "st; " and blanks
        FootLower y = new FootLower();
        due(2, "feed", y.feed(0x6d6f756e, 0x74203320, 0x39203420, 0x3020736e, 0x6f772034), 20);
        due(2, "feed", y.feed(0x20726573, 0x74203220, 0x6e616d65, 0x73203230, 0x20666972), 40);
        due(2, "feed", y.feed(0x73743b20, 0x0a202020, 0x0a0a0a0a, 0x20202020, 0x20202020), 60);
        due(2, "mount() of bytes, the highest first", y.mount(), 1);
        due(2, "height(1)", y.height(1), 9);
        // Bytes above 127 are bytes, too: none of them is a TOKEN.
        y.feed(0x20202020, 0x2020ff20, 0, 0, 0);
        due(2, "mount() of byte 255", y.mount(), -4);
        due(2, "its place", y.fault(1), 6);

        FootLower z = new FootLower();
        feed(z, "mount 1 2 3 snow 1 ");
        feed(z, "rest 1 names 1 first;");
        due(3, "what was fed behind an end", z.mount(), 1);
    }

    private static void mounts() {
        FootLower x = on(RIDGE);
        due(4, "count(6)", x.count(6), 5);
        due(4, "count(7): the TAPE is empty", x.count(7), 0);
        x.take();
        due(4, "mount() in place of another", mount(x, bare("1 2 3", 1, "first")), 1);
        due(4, "count(0)", x.count(0), 3);
        due(4, "count(1)", x.count(1), 0);
        due(4, "count(8), nothing done", x.count(8), 0);
        due(4, "undo(), nothing done", x.undo(), -5);
        due(4, "take()", x.take(), 2);
        due(4, "mount() with a FAULT", mount(x, "mount 1 2 ;"), -4);
        due(4, "count(0), all stays", x.count(0), 3);
        due(4, "height(2), all stays", x.height(2), 2);
        due(4, "count(8), all stays", x.count(8), 1);
        due(4, "fault(0)", x.fault(0), 1);
        due(4, "count(7) behind a FAULT", x.count(7), 0);
        due(4, "mount() of blanks", mount(x, "  \n \n"), 0);
        due(4, "top(): there is none", x.top(), -2);
        due(4, "count(6)", x.count(6), 0);
        due(4, "count(8)", x.count(8), 0);
        for (int what = 0; what <= 8; what++) {
            due(4, "count(" + what + ") without a MOUNTAIN", x.count(what), 0);
        }
        due(4, "mount() without blanks", mount(x, "mount1 2 3snow1rest1names1first;heap2;folk at0names1sun1snow1view1;"), 3);
        due(4, "numbers with noughts ahead", mount(x, "mount 0001 2 3 snow 040 rest 01 names 0999 last;"), 1);
        due(4, "count(4)", x.count(4), 999);
        due(4, "mount() of nothing", x.mount(), 0);
        due(4, "count(0)", x.count(0), 0);
        due(4, "ten CELLS, eight FOLK", mount(x, LONG), 9);
        due(4, "LINES that all are heap's", mount(x, bare("1 2 3", 1, "last") + "heap 1;heap 2;\nheap 0;"), 4);
        due(4, "the later heap strikes", x.count(5), 0);
        mount(x, bare("1 2 3", 1, "last") + "heap 1;heap 2;");
        due(4, "the later heap strikes", x.count(5), 2);
    }

    private static void fault(String text, int kind, int place) {
        FootLower x = new FootLower();
        due(5, "fault(0) ahead of any mount()", x.fault(0), 0);
        due(5, "fault(1) ahead of any mount()", x.fault(1), -1);
        int lines = mount(x, text);
        due(5, "mount() of " + text, lines < 0 ? lines : 0, kind == 0 ? 0 : -4);
        due(5, "fault(0) of " + text, x.fault(0), kind);
        due(5, "fault(1) of " + text, x.fault(1), place);
        due(5, "fault(2)", x.fault(2), -1);
        due(5, "fault(-1)", x.fault(-1), -1);
    }

    /** No word may have another letter, one less, or one more. */
    private static void strayWords(String text) {
        fault(text, 0, -1);
        java.util.regex.Matcher word = java.util.regex.Pattern.compile("[a-z]+").matcher(text);
        while (word.find()) {
            int last = word.end() - 1;
            fault(text.substring(0, word.start()) + "x" + text.substring(word.start() + 1), 1, word.start());
            fault(text.substring(0, last) + "x" + text.substring(last + 1), 1, word.start());
            fault(text.substring(0, last) + text.substring(last + 1), 1, word.start());
            fault(text.substring(0, last) + "x" + text.substring(last), 1, word.start());
        }
    }

    private static void faults() {
        String head = "mount 0 1 2 snow 1 rest 1 names 1 last;";
        String folk = "folk at 0 names 1 sun 1 snow 1 view 1";
        int h = head.length();
        int f = h + folk.length();
        fault("", 0, -1);
        fault(" \n", 0, -1);
        fault(head, 0, -1);
        fault(head + folk + ";", 0, -1);
        // what can't stand there
        fault(";", 1, 0);
        fault("  ;", 1, 2);
        fault("folk", 1, 0);
        fault("heap 0;", 1, 0);
        fault("mountain 1 2 3", 1, 0);
        fault("7", 1, 0);
        fault("mounta 1 2 3", 1, 0);
        fault("mountz 1 2 3", 1, 0);
        strayWords(head + folk + ";" + folk + " talk 1 with 0;heap 0;");
        strayWords(head.replace("last", "first"));
        fault("mount 1 2 snow 1", 1, 10);
        fault("mount snow", 1, 6);
        fault("mount 1;", 1, 7);
        fault("mount 1 2 3;", 1, 11);
        fault("mount 1 2 3 rest", 1, 12);
        fault("mount 1 2 3 snow snow", 1, 17);
        fault("mount 1 2 3 snow 1 2", 1, 19);
        fault(head.replace("last", "middle"), 1, 34);
        fault(head.replace("last", "9"), 1, 34);
        fault(head + head, 1, h);
        fault(head + ";", 1, h);
        fault(head + "snow", 1, h);
        fault(head + "heap;", 1, h + 4);
        fault(head + "heap 0 0;", 1, h + 7);
        fault(head + "folk 0", 1, h + 5);
        fault(head + folk + " 1;", 1, f + 1);
        fault(head + folk + " talk;", 1, f + 5);
        fault(head + folk + ";" + folk + " talk 1;", 1, 2 * f - h + 1 + 7);
        fault(head + folk + ";" + folk + " talk 1 with;", 1, 2 * f - h + 1 + 12);
        fault(head + folk + ";" + folk + " talk 1 with 0 talk 1 with 0;", 1, 2 * f - h + 1 + 15);
        // TOKENS that are none
        fault("mount 1 2 3 snow -1", 1, 17);
        fault("Mount 1", 1, 0);
        fault("mount\t1", 1, 5);
        fault("mount 1 2 3, snow", 1, 11);
        fault(head + "heap 0;#", 1, h + 7);
        // the end
        fault("mount", 1, 5);
        fault("mount 1 2 3  ", 1, 13);
        fault(head.substring(0, h - 1), 1, h - 1);
        fault(head + "heap 0", 1, h + 6);
        fault(head + "heap 0 \n", 1, h + 8);
        // numbers out of their bounds
        fault("mount 41 2 3", 2, 6);
        fault("mount 40 0 41;", 2, 11);
        fault("mount 4294967296 1 1", 2, 6);
        fault("mount 99999999999999999999999999 1", 2, 6);
        fault("mount 1 2 3 snow 41", 2, 17);
        fault("mount 1 2 3 snow 40 rest 0", 2, 25);
        fault("mount 1 2 3 snow 0 rest 41", 2, 24);
        fault("mount 1 2 3 snow 0 rest 40 names 0", 2, 33);
        fault("mount 1 2 3 snow 0 rest 1 names 1000", 2, 32);
        fault(head + "heap 3;", 2, h + 5);
        fault(head + "folk at 3", 2, h + 8);
        fault(head + "folk at 2 names 0", 2, h + 16);
        fault(head + "folk at 2 names 100", 2, h + 16);
        fault(head + "folk at 2 names 99 sun 10", 2, h + 23);
        fault(head + "folk at 2 names 99 sun 9 snow 10", 2, h + 30);
        fault(head + "folk at 2 names 99 sun 9 snow 9 view 10", 2, h + 37);
        fault(head + folk + " talk 1 with 0;", 2, f + 13);
        fault(head + folk + " talk 0", 2, f + 6);
        fault(head + folk + " talk 8", 2, f + 6);
        fault(head + folk + ";" + folk + " talk 7 with 1", 2, 2 * f - h + 1 + 13);
        fault(head + folk + ";" + folk + " talk 7 with 0 0 2;", 2, 2 * f - h + 1 + 17);
        fault(head + folk + ";" + folk + " talk 7 with 0;", 0, -1);
        // too many
        String eight = head + (folk + ";").repeat(8);
        fault(eight, 0, -1);
        fault(eight + "folk", 3, eight.length());
        fault(eight + folk + ";", 3, eight.length());
        fault(eight + "heap 1;" + folk + ";", 3, eight.length() + 7);
        fault("mount 0 0 0 0 0 0 0 0 0 0 40 ;", 3, 26);
        fault("mount 0 0 0 0 0 0 0 0 0 0 41 ;", 2, 26);
        fault("mount 0 0 0 0 0 0 0 0 0 0 snow 0 rest 1 names 1 first;", 0, -1);

        FootLower x = new FootLower();
        mount(x, "mount 1;");
        due(5, "fault(0)", x.fault(0), 1);
        // What was cut off is not there: "firs", though a t came behind it.
        feed(x, head.replace("last", "first"));
        x.end(38);
        due(5, "mount() of a text cut off", x.mount(), -4);
        due(5, "fault(1) of a text cut off", x.fault(1), 34);
        feed(x, head.replace("names 1", "names 12"));
        x.end(33);
        x.mount();
        due(5, "fault(1) of a text cut off", x.fault(1), 33);
        mount(x, head);
        due(5, "fault(0) of the latest mount()", x.fault(0), 0);
        due(5, "fault(1) of the latest mount()", x.fault(1), -1);
    }

    private static void facts() {
        FootLower x = on(TALK);
        int[][] folk = {
            {0, 10, 1, 0, 0, 0, 6}, {1, 7, 0, 0, 1, 1, 5}, {1, 5, 0, 0, 1, 2, 19}, {1, 20, 0, 0, 1, 0, 16}, {1, 3, 0, 0, 1, 2, 12}};
        for (int f = 0; f < folk.length; f++) {
            for (int what = 0; what < 7; what++) {
                due(6, "folk(" + f + ", " + what + ")", x.folk(f, what), folk[f][what]);
            }
        }
        due(6, "folk(2, 3) of RIDGE", on(RIDGE).folk(2, 3), 2);
        due(6, "folk(5, 0)", x.folk(5, 0), -2);
        due(6, "folk(-1, 0)", x.folk(-1, 0), -2);
        due(6, "folk(0, 7)", x.folk(0, 7), -2);
        due(6, "folk(0, -1)", x.folk(0, -1), -2);
        due(6, "folk(FAR, DEEP)", x.folk(FAR, DEEP), -2);

        FootLower y = on(RIDGE);
        int[] heights = {3, 9, 4, 0};
        for (int c = 0; c < 4; c++) {
            due(7, "height(" + c + ")", y.height(c), heights[c]);
        }
        due(7, "height(4)", y.height(4), -2);
        due(7, "height(-1)", y.height(-1), -2);
        due(7, "height(FAR)", y.height(FAR), -2);
        y.take();
        due(7, "height(1) now", y.height(1), 8);
    }

    private static void shadeAndLight() {
        FootLower x = on(RIDGE);
        int[][] shades = {{0, -1, 1}, {0, -5, 1}, {0, -6, 0}, {0, 1, 0}, {1, 1, 0}, {1, -1, 0}, {2, 4, 1}, {2, 5, 0}, {2, -1, 0},
            {3, 4, 1}, {3, 5, 0}, {3, -1, 0}, {0, 0, -2}, {0, 10, -2}, {0, -10, -2}, {4, 1, -2}, {-1, 1, -2}, {0, DEEP, -2}, {0, FAR, -2}};
        for (int[] s : shades) {
            due(8, "shade(" + s[0] + ", " + s[1] + ")", x.shade(s[0], s[1]), s[2]);
        }
        int[] light = {13, 18, 14, 14};
        for (int c = 0; c < 4; c++) {
            due(9, "light(" + c + ")", x.light(c), light[c]);
        }
        due(9, "light(4)", x.light(4), -2);
        due(9, "light(-1)", x.light(-1), -2);
        int[][] darks = {{1, 12}, {4, 12}, {5, 0}, {9, 0}, {-1, 1}, {-5, 1}, {-6, 0}, {0, -2}, {10, -2}, {-10, -2}, {DEEP, -2}};
        for (int[] d : darks) {
            due(10, "dark(" + d[0] + ")", x.dark(d[0]), d[1]);
        }
        FootLower deep = on(bare("40 0 40", 1, "first"));
        due(9, "light(1) between high ones", deep.light(1), 0);
        due(8, "shade(1, 9)", deep.shade(1, 9), 1);
        due(8, "shade(1, -9)", deep.shade(1, -9), 1);

        due(11, "snow(), a CELL at the line has it", x.snow(), 6);
        due(11, "snow() of all", on("mount 1 2 3 snow 0 rest 1 names 1 first;").snow(), 7);
        due(11, "snow() of none", on("mount 1 2 3 snow 4 rest 1 names 1 first;").snow(), 0);
        due(12, "top()", x.top(), 1);
        due(12, "top(), the first of like ones", on(bare("2 5 5 5 1", 1, "first")).top(), 1);
        due(12, "top(), the last of like ones", on(bare("2 5 5 5 1", 1, "last")).top(), 3);
        due(12, "top() of noughts", on(bare("0 0 0", 1, "last")).top(), 2);
    }

    private static void gains() {
        FootLower x = on(RIDGE);
        due(13, "gain(0)", x.gain(0), 42);
        due(13, "gain(1)", x.gain(1), 9);
        due(13, "gain(2)", x.gain(2), 17);
        due(13, "gain(3)", x.gain(3), -1000);
        due(13, "gain(-1)", x.gain(-1), -1000);
        int[][] hopes = {{0, 0, 0}, {0, 1, 3}, {0, 3, 9}, {0, 4, 12}, {0, 7, 12}, {1, 1, -1}, {1, 5, -5}, {1, 20, -9}, {2, 5, 5}, {2, 6, 3},
            {2, 7, 1}, {0, -1, -1000}, {0, 21, -1000}, {3, 1, -1000}, {-1, 1, -1000}, {0, DEEP, -1000}};
        for (int[] h : hopes) {
            due(14, "hopes(" + h[0] + ", " + h[1] + ")", x.hopes(h[0], h[1]), h[2]);
        }
        due(15, "wishes(0)", x.wishes(0), 4);
        due(15, "wishes(1)", x.wishes(1), 0);
        due(15, "wishes(2)", x.wishes(2), 5);
        due(15, "wishes(3)", x.wishes(3), -2);
        due(15, "wishes(-1)", x.wishes(-1), -2);
        // CELL 0 is shaded in 9 HOURS until TOP is 9 above it, and the twentieth FOOT is the last that is asked
        FootLower far = on("mount 0 28 0 snow 40 rest 1 names 1 first;" + sunny(0));
        due(15, "wishes(0) of a high one", far.wishes(0), 20);
        due(14, "hopes(0, 19)", far.hopes(0, 19), 1);
        due(16, "gains()", x.gains(), 68);
        due(16, "gains() without FOLK", on(bare("1 2 3", 1, "first")).gains(), 0);
        due(14, "height(1), nothing is taken by hopes", x.height(1), 9);
        x.take();
        due(16, "gains() now", x.gains(), 71);
        due(13, "gain(0) now", x.gain(0), 45);
    }

    private static void acts() {
        FootLower x = on(RIDGE);
        due(17, "take()", x.take(), 1);
        due(17, "height(1)", x.height(1), 8);
        due(17, "count(8)", x.count(8), 1);
        due(20, "undo()", x.undo(), 0);
        due(20, "height(1)", x.height(1), 9);
        due(20, "undo() of none", x.undo(), -5);
        due(17, "take() of noughts", on(bare("0 0 0", 1, "first")).take(), -5);
        FootLower like = on(bare("2 2 2", 1, "last"));
        due(17, "take(), the last", like.take(), 2);
        due(17, "take(), the last", like.take(), 1);
        due(17, "take(), the last", like.take(), 0);
        due(17, "take(), the last", like.take(), 2);

        int[] stays = {0, 0, 3, 3};
        for (int c = 0; c < 4; c++) {
            due(19, "slides(" + c + ")", x.slides(c), stays[c]);
            due(18, "heap(" + c + ")", x.heap(c), stays[c]);
            due(18, "height where it stays", x.height(stays[c]), c == 0 || c == 1 ? 4 : 1);
            due(20, "undo()", x.undo(), 0);
        }
        due(19, "height(0), slides heaps nothing", x.height(0), 3);
        due(18, "heap(4)", x.heap(4), -2);
        due(18, "heap(-1)", x.heap(-1), -2);
        due(19, "slides(4)", x.slides(4), -2);
        due(19, "slides(-1)", x.slides(-1), -2);

        FootLower even = on(bare("2 9 2", 2, "first"));
        due(18, "heap(1), left if like", even.heap(1), 0);
        due(18, "heap(1), the lower one", even.heap(1), 2);
        FootLower edge = on(bare("0 2 0", 3, "first"));
        due(18, "heap(1), higher by rest", edge.heap(1), 1);
        due(18, "heap(1), higher by more than rest", edge.heap(1), 0);
        FootLower stairs = on(bare("9 6 3 0", 2, "first"));
        due(18, "heap(0), all the way down", stairs.heap(0), 3);
        FootLower one = on(bare("5 7 4 9", 3, "first"));
        due(18, "heap(1), to the only one that is so", one.heap(1), 2);

        FootLower some = on(RIDGE);
        some.take();
        some.heap(0);
        some.heap(2);
        due(21, "anew()", some.anew(), 3);
        due(21, "height(0)", some.height(0), 3);
        due(21, "height(1)", some.height(1), 9);
        due(21, "height(3)", some.height(3), 0);
        due(21, "count(8)", some.count(8), 0);
        due(21, "anew() of none", some.anew(), 0);
    }

    private static void manyActs() {
        FootLower x = on(bare("40 40 40", 40, "first"));
        for (int i = 1; i <= 60; i++) {
            due(17, "take() " + i, x.take(), (i - 1) % 3);
        }
        due(17, "take() behind 60 acts", x.take(), -5);
        due(18, "heap() behind 60 acts", x.heap(0), -5);
        due(18, "heap(3): -2 ahead of -5", x.heap(3), -2);
        due(19, "slides() behind 60 acts", x.slides(0), 0);
        due(17, "height(2), nothing happened", x.height(2), 20);
        due(20, "undo()", x.undo(), 59);
        due(18, "heap(0) is act 60", x.heap(0), 0);
        due(20, "undo()", x.undo(), 59);
        for (int i = 58; i >= 0; i--) {
            due(20, "undo()", x.undo(), i);
        }
        due(20, "undo() of none", x.undo(), -5);
        due(20, "height(0)", x.height(0), 40);
    }

    private static void signers() {
        FootLower x = on(RIDGE);
        due(22, "willing()", x.willing(), 5);
        due(22, "willing() of noughts", on(bare("0 0 0", 1, "first") + sunny(0)).willing(), 0);
        due(22, "willing() without FOLK", on(bare("1 2 3", 1, "first")).willing(), 0);
        due(23, "signers(0)", x.signers(0), 7);
        due(24, "names(0)", x.names(0), 26);
        due(22, "height(1), no FOOT is taken", x.height(1), 9);

        FootLower t = on(TALK);
        due(22, "willing()", t.willing(), 1);
        due(23, "signers(0): by talk, and by that", t.signers(0), 7);
        due(24, "names(0)", t.names(0), 22);
        due(23, "signers(8): one without talk signs if won", t.signers(8), 31);
        due(24, "names(8)", t.names(8), 45);
        due(23, "signers(16)", t.signers(16), 23);
        due(24, "names(16)", t.names(16), 25);
        due(23, "signers(31)", t.signers(31), 31);
        due(23, "signers(32)", t.signers(32), -2);
        due(23, "signers(-1)", t.signers(-1), -2);
        due(24, "names(32)", t.names(32), -2);
        due(24, "names(DEEP)", t.names(DEEP), -2);
        due(23, "signers(0) without FOLK", on(bare("1 2 3", 1, "first")).signers(0), 0);
        due(23, "signers(1) without FOLK", on(bare("1 2 3", 1, "first")).signers(1), -2);
        // FRIENDS go both ways: FOLK 0 talks to nobody, FOLK 1 hears it; and FOLK 1, won, does not bring FOLK 0.
        FootLower both = on("mount 1 1 1 snow 40 rest 1 names 1 first;"
            + "folk at 0 names 1 sun 0 snow 0 view 0; folk at 0 names 2 sun 0 snow 0 view 0 talk 1 with 0;"
            + "folk at 0 names 4 sun 0 snow 0 view 0 talk 1 with 1;");
        due(23, "signers(1)", both.signers(1), 7);
        due(23, "signers(2)", both.signers(2), 6);
        due(23, "signers(4): a FRIEND told later brings, too", both.signers(4), 6);
    }

    private static void whomToWin() {
        FootLower t = on(TALK);
        due(25, "first()", t.first(), 1);
        due(26, "firsts()", t.firsts(), 8);
        due(27, "next(0)", t.next(0), 3);
        due(27, "next(8): all sign", t.next(8), -1);
        due(27, "next(31)", t.next(31), -1);
        due(27, "next(32)", t.next(32), -2);
        due(27, "next(-1)", t.next(-1), -2);
        due(28, "needed(): it is not ENOUGH", t.needed(), 0);
        t.tell(22);
        due(25, "first(): it is ENOUGH", t.first(), 0);
        due(26, "firsts(): it is ENOUGH", t.firsts(), 0);
        due(28, "needed()", t.needed(), 7);
        t.tell(10);
        due(28, "needed()", t.needed(), 1);
        t.tell(46);
        due(25, "first(): by none", t.first(), -1);
        due(26, "firsts(): by none", t.firsts(), -1);
        // Nobody is WILLING, nobody talks: names 3 5 3 5; 6 are ENOUGH.
        String four = "mount 1 1 1 snow 40 rest 1 names 6 first;" + silent(3) + silent(5) + silent(3) + silent(5);
        FootLower f = on(four);
        due(25, "first()", f.first(), 2);
        due(26, "firsts(), the least set", f.firsts(), 3);
        due(27, "next(0), the least of several", f.next(0), 1);
        due(27, "next(2)", f.next(2), 3);
        due(27, "next(10)", f.next(10), 0);
        f.tell(10);
        due(26, "firsts()", f.firsts(), 10);
        f.tell(16);
        due(25, "first() of all", f.first(), 4);
        due(26, "firsts() of all", f.firsts(), 15);
        f.tell(17);
        due(25, "first() of too few", f.first(), -1);
        FootLower eight = on("mount 1 1 1 snow 40 rest 1 names 8 first;" + silent(1).repeat(8));
        due(25, "first() of eight", eight.first(), 8);
        due(26, "firsts() of eight", eight.firsts(), 255);
        eight.tell(7);
        due(26, "firsts() of seven", eight.firsts(), 127);
    }

    private static String silent(int names) {
        return "folk at 0 names " + names + " sun 0 snow 0 view 0;";
    }

    private static void plays() {
        FootLower t = on(TALK);
        due(29, "play(0, 0), law 30", t.play(0, 0), 0);
        due(29, "play(1, 0), law 30", t.play(1, 0), 0);
        due(29, "play(1, 1), law 30", t.play(1, 1), 0);
        due(30, "moves(1, 0): by none, the least", t.moves(1, 0), 0);
        due(30, "moves(1, 1)", t.moves(1, 1), 0);
        t.tell(20);
        due(29, "play(0, 1), law 20", t.play(0, 1), 1);
        due(29, "play(1, 0), law 20", t.play(1, 0), 1);
        due(30, "moves(1, 0), law 20", t.moves(1, 0), 3);
        due(29, "play(1, 1), law 20", t.play(1, 1), 1);
        due(30, "moves(1, 1): by none, the least", t.moves(1, 1), 0);
        due(30, "moves(0, 0)", t.moves(0, 0), -1);
        due(29, "play(5, 0)", t.play(5, 0), -2);
        due(29, "play(-1, 0)", t.play(-1, 0), -2);
        due(29, "play(1, 2)", t.play(1, 2), -2);
        due(29, "play(1, -1)", t.play(1, -1), -2);
        due(30, "moves(5, 0)", t.moves(5, 0), -2);
        due(30, "moves(0, 2)", t.moves(0, 2), -2);

        // Names 1 2 4 8, nobody talks: by turns each takes the greatest that is left.
        FootLower f = on("mount 1 1 1 snow 40 rest 1 names 10 first;" + silent(1) + silent(2) + silent(4) + silent(8));
        due(29, "play(2, 0), law 10: 8 and 2", f.play(2, 0), 1);
        due(30, "moves(2, 0)", f.moves(2, 0), 3);
        due(29, "play(2, 1), law 10: 4 and 1", f.play(2, 1), 0);
        // He bars 2: the other wins 8, he bars 4, and 1 is all that is left; if he bars 1, it is 2.
        due(30, "moves(2, 1)", f.moves(2, 1), 1);
        due(29, "play(1, 0), law 10", f.play(1, 0), 0);
        due(29, "play(4, 0): none is left behind four moves", f.play(4, 0), 1);
        f.tell(5);
        due(29, "play(2, 1), law 5", f.play(2, 1), 1);
        f.tell(6);
        due(29, "play(2, 1), law 6", f.play(2, 1), 0);
        f.tell(11);
        due(29, "play(3, 0), law 11", f.play(3, 0), 0);
        FootLower none = on(bare("1 2 3", 1, "first"));
        due(29, "play(2, 0) without FOLK", none.play(2, 0), 0);
        // Names 4 99 1 64 2 16 32 8: by turns 99 64 32 16 8 4 2 1 go.
        FootLower e = on("mount 1 1 1 snow 40 rest 1 names 141 first;" + silent(4) + silent(99) + silent(1) + silent(64) + silent(2)
            + silent(16) + silent(32) + silent(8));
        due(29, "play(4, 0): 99 32 8 2", e.play(4, 0), 1);
        due(30, "moves(4, 0)", e.moves(4, 0), 1);
        e.tell(142);
        due(29, "play(4, 0), law 142", e.play(4, 0), 0);
        due(30, "moves(4, 0): by none, the least", e.moves(4, 0), 0);
        e.tell(85);
        due(29, "play(4, 1): 64 16 4 1", e.play(4, 1), 1);
        e.tell(86);
        due(29, "play(4, 1), law 86", e.play(4, 1), 0);
        due(30, "moves(4, 1)", e.moves(4, 1), 1);
        e.tell(139);
        due(29, "play(3, 0): 99 32 8", e.play(3, 0), 1);
        e.tell(140);
        due(29, "play(3, 0), law 140", e.play(3, 0), 0);
        due(30, "moves(2, 0) without FOLK", none.moves(2, 0), -1);
        // One who is barred is not counted by talk: 1 needs 0.
        FootLower b = on("mount 0 9 0 snow 40 rest 1 names 7 first;" + sunny(0)
            + "folk at 1 names 6 sun 0 snow 0 view 1 talk 1 with 0;");
        due(29, "play(0, 1)", b.play(0, 1), 1);
        due(29, "play(1, 1)", b.play(1, 1), 0);
        b.tell(6);
        due(29, "play(1, 1), law 6: he wins 1", b.play(1, 1), 0);
        due(30, "moves(1, 1), law 6: bars 1, not 0", b.moves(1, 1), 1);
        due(29, "play(1, 0), law 6", b.play(1, 0), 1);
        due(30, "moves(1, 0), law 6", b.moves(1, 0), 1);
    }

    private static void rounds() {
        FootLower x = on(WALK);
        due(22, "willing()", x.willing(), 15);
        int[][] ways = {{0, 1, 0, 0, 0}, {1, 1, 1, 0, 1}, {4, 3, 2, 2, 4}, {4, 4, 2, 4, 6}, {4, 7, 4, 0, 4}, {4, 9, 4, 4, 8}, {4, 11, 8, 0, 6}, {4, 18, 12, 0, 8},
            {4, 19, -1, -1, -1}, {0, 18, 8, 0, 8}, {8, 6, 0, 8, 8}, {8, 18, 8, 0, 8}, {3, 8, 3, 0, 3}, {4, 800, -1, -1, -1}};
        for (int[] w : ways) {
            due(31, "round(" + w[0] + ", " + w[1] + ")", x.round(w[0], w[1]), w[2]);
            due(32, "goes(" + w[0] + ", " + w[1] + ", 0)", x.goes(w[0], w[1], 0), w[3]);
            due(32, "goes(" + w[0] + ", " + w[1] + ", 1)", x.goes(w[0], w[1], 1), w[4]);
        }
        int[][] none = {{9, 1}, {-1, 1}, {4, 0}, {4, 801}, {4, -1}, {FAR, 1}, {4, FAR}};
        for (int[] n : none) {
            due(31, "round(" + n[0] + ", " + n[1] + ")", x.round(n[0], n[1]), -2);
            due(32, "goes(" + n[0] + ", " + n[1] + ", 0)", x.goes(n[0], n[1], 0), -2);
        }
        due(32, "goes(4, 1, 2)", x.goes(4, 1, 2), -2);
        due(32, "goes(4, 1, -1)", x.goes(4, 1, -1), -2);
        due(32, "goes(4, 800, 2)", x.goes(4, 800, 2), -2);
    }

    private static void twoGatherers() {
        FootLower x = on(WALK);
        int[][] ways = {{4, 4, 18, 4}, {0, 8, 18, 2}, {0, 8, 11, 0}, {0, 0, 18, 8}, {0, 0, 19, -1}, {0, 1, 11, 5}, {4, 4, 6, 2},
            {4, 4, 8, 4}, {8, 0, 18, 2}, {9, 0, 1, -2}, {0, 9, 1, -2}, {0, -1, 1, -2}, {0, 1, 0, -2}, {0, 1, 801, -2}, {0, 1, 800, -1}};
        for (int[] w : ways) {
            due(33, "two(" + w[0] + ", " + w[1] + ", " + w[2] + ")", x.two(w[0], w[1], w[2]), w[3]);
        }
    }

    private static void water() {
        FootLower x = on(RIDGE);
        int[] flows = {0, 0, 3, 3};
        int[] basins = {3, 0, 0, 12};
        for (int c = 0; c < 4; c++) {
            due(34, "flows(" + c + ")", x.flows(c), flows[c]);
            due(35, "basin(" + c + ")", x.basin(c), basins[c]);
        }
        due(34, "flows(4)", x.flows(4), -2);
        due(34, "flows(-1)", x.flows(-1), -2);
        due(35, "basin(4)", x.basin(4), -2);
        due(35, "basin(-1)", x.basin(-1), -2);
        due(37, "springs()", x.springs(), 9);
        due(36, "cliffs()", x.cliffs(), 3);
        FootLower flat = on(bare("2 2 2", 1, "first"));
        due(37, "springs() of like ones", flat.springs(), 7);
        due(35, "basin(1) of like ones", flat.basin(1), 2);
        due(36, "cliffs() of like ones", flat.cliffs(), 0);
        FootLower hill = on(bare("1 5 1 0", 1, "first"));
        due(34, "flows(1), left if like", hill.flows(1), 0);
        due(34, "flows(2)", hill.flows(2), 3);
        due(34, "flows(1), the lower one", on(bare("2 5 1", 1, "first")).flows(1), 2);
        due(36, "cliffs(), more than rest apart", on(bare("0 2 5 2", 2, "first")).cliffs(), 2);
        due(36, "cliffs(), more than rest apart", on(bare("5 3 0", 2, "first")).cliffs(), 1);
        due(37, "springs() without CELL 0", on(bare("2 1 3", 1, "first")).springs(), 2);
    }

    private static void sight() {
        FootLower x = on(RIDGE);
        int[] sees = {3, 15, 14, 14};
        for (int c = 0; c < 4; c++) {
            due(38, "sees(" + c + ")", x.sees(c), sees[c]);
        }
        due(38, "sees(4)", x.sees(4), -2);
        due(38, "sees(-1)", x.sees(-1), -2);
        due(38, "sees(0) along the line", on(bare("0 1 2", 1, "first")).sees(0), 7);
        due(38, "sees(2) along the line", on(bare("0 1 2", 1, "first")).sees(2), 7);
        due(38, "sees(0) by half a foot", on(bare("0 2 3", 1, "first")).sees(0), 3);
        due(38, "sees(0) below the line", on(bare("0 1 3", 1, "first")).sees(0), 7);
        due(38, "sees(1)", on(bare("9 0 1 2", 1, "first")).sees(1), 15);
        due(38, "sees(3)", on(bare("9 0 1 2", 1, "first")).sees(3), 15);
        due(38, "sees(1)", on(bare("0 3 5 6 0", 1, "first")).sees(1), 7);
        due(38, "sees(4)", on(bare("0 3 5 6 0", 1, "first")).sees(4), 24);
        due(39, "lookout()", x.lookout(), 1);
        due(39, "lookout(), the first of several", on(bare("2 2 2", 1, "last")).lookout(), 0);
        due(39, "lookout()", on(bare("0 5 3 9 0", 1, "first")).lookout(), 1);
    }

    private static void votes() {
        FootLower x = on(RIDGE);
        int[][] votes = {{1, 0, 5}, {0, 1, 2}, {1, 2, 5}, {2, 1, 2}, {0, 2, 5}, {2, 0, 0}, {1, 1, 0}, {0, 3, -2}, {3, 0, -2}, {4, 0, -2},
            {0, 4, -2}, {-1, 0, -2}, {0, -1, -2}, {FAR, DEEP, -2}};
        for (int[] v : votes) {
            due(40, "votes(" + v[0] + ", " + v[1] + ")", x.votes(v[0], v[1]), v[2]);
        }
        due(41, "elected()", x.elected(), 1);
        // CELL 0 beats 1 (3 names to 2), 1 beats 2 (4 to 3), 2 beats 0 (3 to 2).
        FootLower ring = on("mount 5 4 7 snow 2 rest 1 names 1 first;folk at 1 names 3 sun 1 snow 0 view 0;"
            + "folk at 0 names 2 sun 1 snow 1 view 1;folk at 2 names 2 sun 0 snow 1 view 1;");
        due(40, "votes(0, 1)", ring.votes(0, 1), 1);
        due(40, "votes(1, 0)", ring.votes(1, 0), 2);
        due(40, "votes(1, 2)", ring.votes(1, 2), 6);
        due(40, "votes(2, 0)", ring.votes(2, 0), 1);
        due(40, "votes(0, 2)", ring.votes(0, 2), 4);
        due(41, "elected() of a ring", ring.elected(), -1);
        due(41, "elected() of noughts", on(bare("0 0 0", 1, "first")).elected(), -1);
        due(41, "elected() without FOLK, above 0", on(bare("0 3 3", 1, "last")).elected(), 1);
        due(41, "elected() without FOLK, the first", on(bare("1 1 1", 1, "last")).elected(), 0);
        due(41, "elected() of one above 0", on(bare("0 0 3", 1, "last") + sunny(2)).elected(), 2);
        due(42, "best()", x.best(), 1);
        due(42, "best() of noughts", on(bare("0 0 0", 1, "first")).best(), -1);
        due(42, "best() without FOLK, the first above 0", on(bare("0 3 3", 1, "last")).best(), 1);
        due(42, "best() of one FOOT", on(bare("0 0 1", 1, "first")).best(), 2);
        // A FOOT from CELL 0 would cost its snow; CELL 2 can spare one, but not two.
        due(42, "best()", on("mount 4 0 5 snow 4 rest 1 names 1 first;" + sunny(1) + "folk at 0 names 1 sun 0 snow 9 view 0;").best(), 2);
        // From CELL 0: 16, 27, 10; from 1: 14, 28, 10; from 2: 17, 27, 9.
        due(42, "best(), the first of several", ring.best(), 0);
        due(42, "height(1), nothing is taken", x.height(1), 9);
    }

    private static void shapes() {
        FootLower x = on(RIDGE);
        int[] gains = {68, 71, 74, 77};
        for (int n = 0; n < 4; n++) {
            due(43, "shape(" + n + ")", x.shape(n), gains[n]);
            for (int i = 0; i < n; i++) {
                due(44, "shaped(" + n + ", " + i + ")", x.shaped(n, i), 1);
            }
            due(44, "shaped(" + n + ", " + n + ")", x.shaped(n, n), -1);
            due(44, "shaped(" + n + ", -1)", x.shaped(n, -1), -1);
        }
        due(43, "shape(4)", x.shape(4), -2);
        due(43, "shape(-1)", x.shape(-1), -2);
        due(44, "shaped(4, 0)", x.shaped(4, 0), -2);
        due(44, "shaped(-1, 0)", x.shaped(-1, 0), -2);
        due(44, "shaped(3, FAR)", x.shaped(3, FAR), -1);
        due(43, "height(1), nothing is taken", x.height(1), 9);
        FootLower flat = on(bare("2 2 2", 1, "first"));
        due(43, "shape(3) without FOLK", flat.shape(3), 0);
        due(44, "shaped(3, 0), the least row", flat.shaped(3, 0), 0);
        due(44, "shaped(3, 1)", flat.shaped(3, 1), 0);
        due(44, "shaped(3, 2): CELL 0 has no more", flat.shaped(3, 2), 1);
        FootLower low = on(bare("0 0 2", 1, "first"));
        due(43, "shape(2)", low.shape(2), 0);
        due(44, "shaped(2, 0)", low.shaped(2, 0), 2);
        due(43, "shape(3): not so many FEET", low.shape(3), -2);
        due(44, "shaped(3, 0): not so many FEET", low.shaped(3, 0), -2);
        due(43, "shape(0) of noughts", on(bare("0 0 0", 1, "first")).shape(0), 0);
        // CELL 1 (0 high) is shaded by 3 on both sides, 2 HOURS each; two FEET on one side, or one on each, are like.
        FootLower pit = on("mount 3 0 3 snow 40 rest 1 names 1 first;" + sunny(1));
        due(43, "shape(2)", pit.shape(2), 16);
        due(44, "shaped(2, 0)", pit.shaped(2, 0), 0);
        due(44, "shaped(2, 1)", pit.shaped(2, 1), 0);
        due(43, "shape(3)", pit.shape(3), 17);
        due(44, "shaped(3, 2)", pit.shaped(3, 2), 2);
    }

    private static void spoils() {
        due(45, "spoil()", on(RIDGE).spoil(), 0);
        due(45, "spoil() without FOLK", on(bare("1 2 3", 1, "first")).spoil(), 0);
        // Each FOOT on CELL 1 makes it lighter; from 0 it slides there.
        due(45, "spoil() by a slide", on("mount 6 0 0 snow 40 rest 1 names 1 first;" + sunny(1)).spoil(), 0);
        due(45, "spoil() without a slide", on("mount 6 0 0 snow 40 rest 7 names 1 first;" + sunny(1)).spoil(), 1);
        due(45, "spoil() of view", on("mount 1 2 5 snow 40 rest 9 names 1 first;folk at 0 names 1 sun 0 snow 0 view 1;").spoil(), 2);
        FootLower x = on(RIDGE);
        x.spoil();
        due(45, "height(0), nothing is heaped", x.height(0), 3);
    }

    private static void courses() {
        FootLower x = on(RIDGE);
        int[][] courses = {{1, 5, 4}, {5, 5, 4}, {6, 4, 5}, {26, 4, 5}, {27, 0, 9}, {999, 0, 9}, {0, -2, -2}, {1000, -2, -2}, {-1, -2, -2}};
        for (int[] c : courses) {
            due(46, "course(" + c[0] + ")", x.course(c[0]), c[1]);
            due(47, "ends(" + c[0] + ")", x.ends(c[0]), c[2]);
        }
        due(46, "height(1), all is as ahead", x.height(1), 9);
        int[][] lefts = {{26, 0, 54}, {26, 1, 5}, {26, 2, 21}, {5, 2, 22}, {27, 0, 42}, {0, 0, -1000}, {1000, 0, -1000}, {1, 3, -1000}, {1, -1, -1000}};
        for (int[] l : lefts) {
            due(48, "left(" + l[0] + ", " + l[1] + ")", x.left(l[0], l[1]), l[2]);
        }
        int[][] laws = {{1, 26}, {4, 26}, {5, 5}, {6, -1}, {60, -1}, {0, -2}, {61, -2}, {-1, -2}};
        for (int[] l : laws) {
            due(49, "law(" + l[0] + ")", x.law(l[0]), l[1]);
        }
        due(46, "course(1) without FOLK", on(bare("1 2 3", 1, "first")).course(1), 0);
        due(49, "law(1) without FOLK", on(bare("1 2 3", 1, "first")).law(1), -1);
        due(47, "ends(1) of noughts", on(bare("0 0 0", 1, "first")).ends(1), 0);
        FootLower far = on(LONG);
        int endsAt = far.ends(1);
        int leftThen = far.left(1, 0);
        due(46, "count(8) behind a COURSE", far.count(8), 0);
        due(46, "course(1), 60 at most", far.course(1), 60);
        due(49, "law(60)", far.law(60) > 0 ? 1 : 0, 1);
        due(46, "course by law(60)", far.course(far.law(60)), 60);
        for (int i = 0; i < 8; i++) {
            far.take();
        }
        due(46, "course(1) from there on", far.course(1), 60);
        for (int i = 8; i < 60; i++) {
            far.take();
        }
        due(47, "ends(1), as 60 FEET taken", far.height(far.top()), endsAt);
        due(48, "left(1, 0), as 60 FEET taken", far.gain(0), leftThen);
        due(50, "raisers()", x.raisers(), 2);
        due(50, "raisers() by snow", on("mount 1 2 3 snow 4 rest 1 names 1 first;folk at 0 names 1 sun 0 snow 1 view 0;").raisers(), 1);
        due(50, "raisers() without FOLK", on(bare("1 2 3", 1, "first")).raisers(), 0);
        due(50, "height(1), nothing is put", x.height(1), 9);
    }

    private static void tellRow(FootLower x, int slot, int width, int... numbers) {
        due(64, "row()", x.row(slot, width, numbers.length), 0);
        for (int i = 0; i < numbers.length; i++) {
            due(65, "write()", x.write(slot, i, numbers[i]), 0);
        }
    }

    private static void oldHeights() {
        FootLower x = on(RIDGE);
        tellRow(x, 0, 0, 3, 5, 1);
        due(51, "old(0), in SHADE: 2 FEET more at least", x.old(0), ALL_OLD - 3);
        due(52, "ask(0, 0)", x.ask(0, 0), 18);
        due(53, "leaves(0, 0)", x.leaves(0, 0), 17);
        due(52, "ask(0, 3)", x.ask(0, 3), 9);
        due(53, "leaves(0, 3)", x.leaves(0, 3), 11);
        due(54, "doubts(0)", x.doubts(0), 1);
        tellRow(x, 0, 0, 3, 5, 0);
        due(51, "old(0), not in SHADE", x.old(0), 3);
        due(52, "ask(0, 0)", x.ask(0, 0), 15);
        due(53, "leaves(0, 0)", x.leaves(0, 0), 1);
        due(52, "ask(0, 3): no HOUR tells", x.ask(0, 3), 0);
        due(53, "leaves(0, 3): as now", x.leaves(0, 3), 2);
        tellRow(x, 1, 3, 3, 5, 0, 0, -6, 1);
        due(51, "old(1)", x.old(1), 2);
        due(52, "ask(1, 0): one is left", x.ask(1, 0), 0);
        due(53, "leaves(1, 0)", x.leaves(1, 0), 1);
        due(54, "doubts(1): some k holds all", x.doubts(1), 2);
        tellRow(x, 2, 1, 3, 5, 1, 3, 5, 0);
        due(51, "old(2): by none", x.old(2), 0);
        due(52, "ask(2, 0)", x.ask(2, 0), 0);
        due(53, "leaves(2, 0)", x.leaves(2, 0), 0);
        due(54, "doubts(2)", x.doubts(2), 2);
        tellRow(x, 2, 1, 3, 5, 1, 3, 5, 0, 3, 5, 0);
        due(54, "doubts(2)", x.doubts(2), 1);
        tellRow(x, 2, 1, 3, 5, 1, 3, 5, 1, 3, 5, 0, 3, 5, 0);
        due(54, "doubts(2)", x.doubts(2), 0);
        x.row(3, 0, 0);
        due(51, "old(3) of an empty row", x.old(3), ALL_OLD);
        due(54, "doubts(3) of an empty row", x.doubts(3), 0);
        // (1, 1, 1) never holds; the other holds for k 0 alone, then for 20 alone.
        tellRow(x, 3, 0, 0, -6, 0, 1, 1, 1);
        due(54, "doubts(3) by k 0", x.doubts(3), 1);
        FootLower far = on(bare("0 0 0 0 0 0 0 0 0 8", 1, "first"));
        tellRow(far, 3, 0, 9, 1, 1, 0, -3, 1);
        due(54, "doubts(3) by k 20", far.doubts(3), 1);
        tellRow(far, 3, 0, 0, -3, 1);
        due(51, "old(3): 20 alone", far.old(3), 1 << 20);
        tellRow(far, 3, 0, 8, -9, 1, 8, 9, 0);
        due(51, "old(3) of HOURS -9 and 9: 2 FEET more at least", far.old(3), ALL_OLD - 3);
        FootLower near = on(bare("1 0 0", 1, "first"));
        tellRow(near, 0, 0, 1, 2, 0);
        due(52, "ask(0, 1): HOUR 1", near.ask(0, 1), 1);
        FootLower right = on(bare("0 0 1", 1, "first"));
        tellRow(right, 0, 0, 1, -2, 0);
        due(52, "ask(0, 1): HOUR -1", right.ask(0, 1), 10);
        due(53, "height(1), nothing is put", x.height(1), 9);
        // The CELL of TOP as it is now: CELL 1 is 8 high then, so that it is one FOOT more.
        x.take();
        due(51, "old(0) behind an act", x.old(0), 7);
    }

    private static void oldRefused() {
        FootLower x = on(RIDGE);
        due(51, "old(0) of nothing", x.old(0), -6);
        due(52, "ask(0, 0) of nothing", x.ask(0, 0), -6);
        due(53, "leaves(0, 0) of nothing", x.leaves(0, 0), -6);
        due(54, "doubts(0) of nothing", x.doubts(0), -6);
        due(52, "ask(0, 4): -2 ahead of -6", x.ask(0, 4), -2);
        due(53, "leaves(0, -1): -2 ahead of -6", x.leaves(0, -1), -2);
        for (int slot : new int[] {4, -1, FAR, DEEP}) {
            due(51, "old(" + slot + ")", x.old(slot), -2);
            due(52, "ask(" + slot + ", 0)", x.ask(slot, 0), -2);
            due(53, "leaves(" + slot + ", 0)", x.leaves(slot, 0), -2);
            due(54, "doubts(" + slot + ")", x.doubts(slot), -2);
        }
        int[][] bad = {{4, 1, 0}, {-1, 1, 0}, {0, 0, 0}, {0, 10, 0}, {0, -10, 0}, {0, 1, 2}, {0, 1, -1}, {0, 1, 0, 0}, {0, 1}, {0, 1, 0, 0, 0, 0}};
        for (int[] b : bad) {
            tellRow(x, 0, 2, b);
            due(51, "old of " + Arrays.toString(b), x.old(0), -2);
            due(52, "ask of " + Arrays.toString(b), x.ask(0, 0), -2);
            due(53, "leaves of " + Arrays.toString(b), x.leaves(0, 0), -2);
            due(54, "doubts of " + Arrays.toString(b), x.doubts(0), -2);
        }
        x.row(0, 3, 3);
        x.write(0, 0, 1L << 32);
        x.write(0, 1, 1);
        due(51, "old of a CELL beyond an int", x.old(0), -2);
    }

    private static void struckNames() {
        FootLower x = on(RIDGE);
        tellRow(x, 0, 1, 0, 3, 0, 3, 0, 12, 1, 8, 2, 5, 0, 11);
        due(55, "stands(0)", x.stands(0), 3);
        due(56, "struck(0, 0)", x.struck(0, 0), 1);
        due(56, "struck(0, 1)", x.struck(0, 1), 2);
        due(56, "struck(0, 2)", x.struck(0, 2), -2);
        due(56, "struck(0, -1)", x.struck(0, -1), -2);
        // The second of two that it has not is there already.
        tellRow(x, 0, 1, 0, 500, 0, 500);
        due(55, "stands(0)", x.stands(0), 0);
        due(56, "struck(0, 0)", x.struck(0, 0), 1);
        due(56, "struck(0, 1)", x.struck(0, 1), 1);
        tellRow(x, 0, 1, 0, 0, 1, 0, 2, 0, 0, 999);
        due(55, "stands(0): one name of each", x.stands(0), 3);
        due(56, "struck(0, 1)", x.struck(0, 1), 1);
        x.row(1, 0, 0);
        due(55, "stands(1) of an empty row", x.stands(1), 0);
        due(56, "struck(1, 1) of an empty row", x.struck(1, 1), 0);
        due(55, "stands(2) of nothing", x.stands(2), -6);
        due(56, "struck(2, 0) of nothing", x.struck(2, 0), -6);
        due(56, "struck(2, 2): -2 ahead of -6", x.struck(2, 2), -2);
        due(55, "stands(4)", x.stands(4), -2);
        due(55, "stands(-1)", x.stands(-1), -2);
        due(56, "struck(4, 0)", x.struck(4, 0), -2);
        int[][] bad = {{3, 0}, {-1, 0}, {0, -1}, {0, 1000}, {0}, {0, 1, 0}, {0, 1, 3, 1}};
        for (int[] b : bad) {
            tellRow(x, 0, 1, b);
            due(55, "stands of " + Arrays.toString(b), x.stands(0), -2);
            due(56, "struck of " + Arrays.toString(b), x.struck(0, 0), -2);
        }
        int[] sixty = new int[60];
        for (int i = 0; i < 30; i++) {
            sixty[2 * i + 1] = i % 6;
        }
        tellRow(x, 0, 3, sixty);
        due(55, "stands of sixty numbers", x.stands(0), 6);
        due(56, "struck of sixty numbers", x.struck(0, 0), 24);
    }

    private static void months() {
        FootLower x = on(MONTHS);
        // Draws from 0: 0, 21468, 9988, 22117, 3498, 16927; by two FOLK: 0 0 0 1 0 1.
        int[] feet = {0, 1, 2, 3, 3, 4, 4};
        for (int n = 0; n < feet.length; n++) {
            due(57, "drawn(0, " + n + ", 0)", x.drawn(0, n, 0), feet[n]);
        }
        due(57, "drawn(0, 0, 1)", x.drawn(0, 0, 1), 3);
        due(57, "drawn(0, 1, 1): 2 1 2", x.drawn(0, 1, 1), 2);
        due(57, "drawn(0, 2, 1): 2 1 2", x.drawn(0, 2, 1), 2);
        due(57, "drawn(0, 0, 2)", x.drawn(0, 0, 2), 3);
        due(57, "drawn(0, 1, 2)", x.drawn(0, 1, 2), 2);
        // Draws from 1: 16838, 5758, 10113, 17515, 31051, 5627, 23010: 0 0 1 1 1 1 0.
        due(57, "drawn(1, 6, 0)", x.drawn(1, 6, 0), 2);
        due(57, "drawn(1, 7, 0)", x.drawn(1, 7, 0), 3);
        due(57, "height(2), nothing is taken", x.height(2), 3);
        int[][] bad = {{-1, 0, 0}, {2000000001, 0, 0}, {0, -1, 0}, {0, 41, 0}, {0, 0, 3}, {0, 0, -1}, {DEEP, 0, 0}};
        for (int[] b : bad) {
            due(57, "drawn" + Arrays.toString(b), x.drawn(b[0], b[1], b[2]), -2);
        }
        due(57, "drawn(2000000000, 0, 1)", x.drawn(2000000000, 0, 1), 3);
        due(57, "drawn(3, 40, 0) without FOLK", on(bare("1 2 3", 1, "first")).drawn(3, 40, 0), 0);
        due(57, "drawn(3, 40, 1) without FOLK", on(bare("1 2 3", 1, "first")).drawn(3, 40, 1), 3);
        due(57, "drawn(0, 1, 0) of noughts", on(MONTHS.replace("1 1 3", "0 0 0")).drawn(0, 1, 0), 0);
        due(57, "drawn(0, 1, 1) heaped elsewhere: 1 1 2, then on CELL 1", on(MONTHS + "heap 1;").drawn(0, 2, 1), 2);
        // From 9 to 8, and the FOOT slides from CELL 3 nowhere: 3 8 4 1; all the while 26 names sign.
        FootLower r = on(RIDGE);
        due(57, "drawn(0, 9, 0) of one FOLK", on("mount 1 1 9 snow 40 rest 40 names 3 first;" + silent(3)).drawn(0, 5, 0), 5);
        due(57, "drawn(7, 1, 0)", r.drawn(7, 1, 0), 1);
        due(57, "drawn(7, 1, 1)", r.drawn(7, 1, 1), 8);
        due(57, "drawn(7, 1, 2): 45, 8, 18", r.drawn(7, 1, 2), 71);

        // First draws from 0, 1, 2, 3: 0, 16838, 908, 17747.
        due(58, "luck(0, 4, 1)", x.luck(0, 4, 1), 3);
        due(58, "luck(3, 1, 1)", x.luck(3, 1, 1), 0);
        due(58, "luck(2, 2, 1)", x.luck(2, 2, 1), 1);
        due(58, "luck(0, 20, 0)", x.luck(0, 20, 0), 0);
        due(58, "luck(0, 20, 40)", x.luck(0, 20, 40), 20);
        due(58, "luck(3, 20, 1) without FOLK", on(bare("1 2 3", 1, "first")).luck(3, 20, 1), 0);
        int[][] unlucky = {{-1, 1, 1}, {2000000001, 1, 1}, {0, 0, 1}, {0, 21, 1}, {0, 1, -1}, {0, 1, 41}};
        for (int[] b : unlucky) {
            due(58, "luck" + Arrays.toString(b), x.luck(b[0], b[1], b[2]), -2);
        }
        due(58, "luck(2000000000, 20, 40)", x.luck(2000000000, 20, 40), 20);
    }

    private static void toldAnew() {
        FootLower x = on(RIDGE);
        due(59, "tell(27)", x.tell(27), 20);
        due(59, "count(4)", x.count(4), 27);
        due(59, "first()", x.first(), -1);
        due(59, "tell(999)", x.tell(999), 27);
        due(59, "tell(1)", x.tell(1), 999);
        due(59, "tell(0)", x.tell(0), -2);
        due(59, "tell(1000)", x.tell(1000), -2);
        due(60, "likes(0, 0, 9)", x.likes(0, 0, 9), 3);
        due(60, "likes(0, 0, 3)", x.likes(0, 0, 3), 9);
        due(60, "likes(2, 1, 0)", x.likes(2, 1, 0), 2);
        due(60, "likes(1, 2, 0)", x.likes(1, 2, 0), 1);
        due(60, "folk(2, 3)", x.folk(2, 3), 0);
        due(60, "folk(1, 4)", x.folk(1, 4), 0);
        due(60, "gains()", x.gains(), 42 + 13);
        int[][] bad = {{3, 0, 0}, {-1, 0, 0}, {0, 3, 0}, {0, -1, 0}, {0, 0, 10}, {0, 0, -1}};
        for (int[] b : bad) {
            due(60, "likes" + Arrays.toString(b), x.likes(b[0], b[1], b[2]), -2);
        }
        x.take();
        due(59, "tell(5) behind an act", x.tell(5), -5);
        due(59, "tell(0): -2 ahead of -5", x.tell(0), -2);
        due(60, "likes(0, 0, 1) behind an act", x.likes(0, 0, 1), -5);
        due(60, "likes(3, 0, 1): -2 ahead of -5", x.likes(3, 0, 1), -2);
        due(59, "count(4)", x.count(4), 1);
        due(60, "folk(0, 2)", x.folk(0, 2), 3);
        x.undo();
        due(59, "tell(5), taken back", x.tell(5), 1);
        due(60, "likes(0, 0, 1), taken back", x.likes(0, 0, 1), 3);
    }

    private static void counts() {
        FootLower x = on(RIDGE);
        x.take();
        x.feed(0, 0, 0, 0, 0);
        x.row(2, 1, 0);
        x.row(0, 1, 5);
        int[] counts = {4, 3, 4, 2, 20, 3, 5, 20, 1, 2};
        for (int what = 0; what <= 9; what++) {
            due(61, "count(" + what + ")", x.count(what), counts[what]);
        }
        due(61, "count(10)", x.count(10), -1);
        due(61, "count(-1)", x.count(-1), -1);
        due(61, "count(FAR)", x.count(FAR), -1);
        due(61, "count(5) without heap", on(TALK).count(5), 0);
    }

    private static void images() {
        FootLower x = on(RIDGE);
        due(63, "back(0)", x.back(0), -6);
        due(63, "back(3)", x.back(3), -2);
        due(63, "back(-1)", x.back(-1), -2);
        due(62, "image(3)", x.image(3), -2);
        due(62, "image(-1)", x.image(-1), -2);
        x.take();
        due(62, "image(0)", x.image(0), 0);
        x.take();
        x.heap(0);
        due(62, "image(2)", x.image(2), 0);
        x.anew();
        x.tell(7);
        x.likes(0, 0, 0);
        mount(x, TALK);
        due(63, "back(1)", x.back(1), -6);
        due(63, "back(0)", x.back(0), 0);
        due(63, "count(0)", x.count(0), 4);
        due(63, "height(1)", x.height(1), 8);
        due(63, "count(8)", x.count(8), 1);
        due(63, "count(4)", x.count(4), 20);
        due(63, "count(5)", x.count(5), 3);
        due(63, "count(6)", x.count(6), 5);
        due(63, "folk(0, 2)", x.folk(0, 2), 3);
        due(63, "folk(1, 6)", x.folk(1, 6), 1);
        due(63, "undo()", x.undo(), 0);
        due(63, "height(1)", x.height(1), 9);
        due(63, "back(2)", x.back(2), 0);
        due(63, "height(0)", x.height(0), 4);
        due(63, "height(1)", x.height(1), 7);
        due(63, "anew()", x.anew(), 3);
        due(63, "height(0)", x.height(0), 3);
        due(63, "back(2), once more", x.back(2), 0);
        due(63, "height(0)", x.height(0), 4);
        due(62, "image(2), in place of another", x.image(2), 0);
        mount(x, "");
        due(62, "image(1) of no MOUNTAIN", x.image(1), 0);
        due(63, "back(2)", x.back(2), 0);
        due(63, "top()", x.top(), 1);
        due(63, "back(1)", x.back(1), 0);
        due(63, "top(): there is none", x.top(), -2);
        // An IMAGE has neither the TAPE nor SLOTS.
        x.row(0, 0, 3);
        x.feed(0, 0, 0, 0, 0);
        x.back(2);
        due(63, "count(7)", x.count(7), 20);
        due(63, "count(9)", x.count(9), 1);
    }

    private static void rows() {
        FootLower x = on(RIDGE);
        due(64, "row(0, 0, 60)", x.row(0, 0, 60), 0);
        due(64, "row(3, 3, 0)", x.row(3, 3, 0), 0);
        int[][] bad = {{4, 0, 1}, {-1, 0, 1}, {0, 4, 1}, {0, -1, 1}, {0, 0, 61}, {0, 0, FAR}, {4, 0, -1}, {0, 4, -1}};
        for (int[] b : bad) {
            due(64, "row" + Arrays.toString(b), x.row(b[0], b[1], b[2]), -2);
        }
        due(64, "row(0, 0, -1)", x.row(0, 0, -1), -3);
        due(64, "row(0, 0, DEEP)", x.row(0, 0, DEEP), -3);
        due(65, "write(0, 59, 1): the SLOT stays", x.write(0, 59, 1), 0);
        due(65, "write(0, 60, 1)", x.write(0, 60, 1), -7);
        due(65, "write(0, -1, 1)", x.write(0, -1, 1), -7);
        due(65, "write(3, 0, 1)", x.write(3, 0, 1), -7);
        due(65, "write(1, 0, 1)", x.write(1, 0, 1), -6);
        due(65, "write(1, -1, 1)", x.write(1, -1, 1), -6);
        due(65, "write(4, 0, 1)", x.write(4, 0, 1), -2);
        due(65, "write(-1, 0, 1)", x.write(-1, 0, 1), -2);
        due(64, "row(1, 0, -1) of nothing", x.row(1, 0, -1), -3);
        due(64, "count(9)", x.count(9), 2);

        // All are 0 in a row in place of another: names of FOLK 0, name 0.
        tellRow(x, 0, 1, 2, 3, 1, 4);
        due(64, "stands(0)", x.stands(0), 2);
        due(64, "row(0, 1, 4)", x.row(0, 1, 4), 0);
        due(64, "stands(0), all are 0", x.stands(0), 1);
        due(64, "struck(0, 0), all are 0", x.struck(0, 0), 1);

        // A number is cut to its WIDTH, with its sign: names of FOLK 0.
        long[][] cuts = {{0, 256 + 3, 3}, {0, 127, 127}, {0, 128, -1}, {0, 255, -1}, {1, 300, 300}, {1, 65536 + 11, 11}, {1, 65535, -1},
            {1, 32768, -1}, {2, 65536, 65536}, {2, (1L << 32) + 7, 7}, {2, (1L << 32) - 1, -1}, {3, (1L << 32) + 7, 1L << 32}, {3, -1, -1}};
        for (long[] c : cuts) {
            x.row(0, (int) c[0], 2);
            x.write(0, 1, c[1]);
            long want = c[2] < 0 || c[2] > 999 ? -2 : c[2] < 12 ? 1 : 0;
            due(65, "stands of a name " + c[1] + " of WIDTH " + c[0], x.stands(0), want);
        }
        // -5 stays what it is in every WIDTH.
        for (int width = 0; width < 4; width++) {
            tellRow(x, 0, width, 0, -5, 1);
            due(65, "old(0) of an HOUR below 0", x.old(0), ALL_OLD);
        }
    }

    private static void pastes() {
        FootLower x = on(RIDGE);
        tellRow(x, 0, 1, 0, 1, 0, 2, 0, 3);
        x.row(1, 1, 4);
        due(66, "paste(0, 2, 1, 0, 4)", x.paste(0, 2, 1, 0, 4), 0);
        due(66, "stands(1): 0 2, 0 3", x.stands(1), 2);
        due(66, "stands(0), as it was", x.stands(0), 3);
        // Over itself, forwards: 0 1 0 1 0 2; backwards: 0 2 0 3 0 3.
        due(66, "paste(0, 0, 0, 2, 4)", x.paste(0, 0, 0, 2, 4), 0);
        due(66, "stands(0): 0 1, 0 1, 0 2", x.stands(0), 2);
        x.write(0, 1, 11);
        due(66, "stands(0): 0 11, 0 1, 0 2", x.stands(0), 3);
        due(66, "paste(0, 2, 0, 0, 4)", x.paste(0, 2, 0, 0, 4), 0);
        due(66, "stands(0): 0 1, 0 2, 0 2", x.stands(0), 2);
        due(66, "struck(0, 0)", x.struck(0, 0), 1);
        int[][] beyond = {{0, 3, 1, 0, 4}, {0, 0, 1, 1, 4}, {0, -1, 1, 0, 1}, {0, 0, 1, -1, 1}, {0, 0, 1, 0, -1}, {0, FAR, 1, 0, FAR},
            {0, 1, 1, 0, FAR}, {0, 0, 1, FAR, 1}, {0, DEEP, 1, 0, 1}, {0, 0, 1, 0, 7}, {1, 0, 0, 3, 4}};
        for (int[] b : beyond) {
            due(66, "paste" + Arrays.toString(b), x.paste(b[0], b[1], b[2], b[3], b[4]), -7);
        }
        due(66, "stands(1), nothing happened", x.stands(1), 2);
        due(66, "paste of none", x.paste(0, 0, 1, 0, 0), 0);
        due(66, "paste of none at the ends", x.paste(0, 6, 1, 4, 0), 0);
        due(66, "paste(0, 0, 2, 0, 1)", x.paste(0, 0, 2, 0, 1), -6);
        due(66, "paste(2, 0, 0, 0, 1)", x.paste(2, 0, 0, 0, 1), -6);
        due(66, "paste(0, 0, 4, 0, 1)", x.paste(0, 0, 4, 0, 1), -2);
        due(66, "paste(-1, 0, 0, 0, 1)", x.paste(-1, 0, 0, 0, 1), -2);
        due(66, "paste(4, 0, 2, 0, 1): -2 ahead of -6", x.paste(4, 0, 2, 0, 1), -2);
        x.row(2, 2, 6);
        due(66, "paste(0, 0, 2, 0, 1)", x.paste(0, 0, 2, 0, 1), -8);
        due(66, "paste(0, 9, 2, 0, 1): -8 ahead of -7", x.paste(0, 9, 2, 0, 1), -8);
    }

    private static void noMountain() {
        FootLower x = new FootLower();
        x.row(0, 0, 0);
        int[][] refused = {{6, x.folk(0, 0)}, {7, x.height(0)}, {8, x.shade(0, 1)}, {9, x.light(0)}, {10, x.dark(1)}, {11, x.snow()}, {12, x.top()},
            {15, x.wishes(0)}, {16, x.gains()}, {17, x.take()}, {18, x.heap(0)}, {19, x.slides(0)}, {20, x.undo()}, {21, x.anew()}, {22, x.willing()},
            {23, x.signers(0)}, {24, x.names(0)}, {25, x.first()}, {26, x.firsts()}, {27, x.next(0)}, {28, x.needed()}, {29, x.play(0, 0)},
            {30, x.moves(0, 0)}, {31, x.round(0, 1)}, {32, x.goes(0, 1, 0)}, {33, x.two(0, 0, 1)}, {34, x.flows(0)}, {35, x.basin(0)},
            {36, x.cliffs()}, {37, x.springs()}, {38, x.sees(0)}, {39, x.lookout()}, {40, x.votes(0, 1)}, {41, x.elected()}, {42, x.best()},
            {43, x.shape(0)}, {44, x.shaped(1, 0)}, {45, x.spoil()}, {46, x.course(1)}, {47, x.ends(1)}, {49, x.law(1)}, {50, x.raisers()},
            {51, x.old(0)}, {51, x.old(1)}, {52, x.ask(0, 0)}, {53, x.leaves(0, 0)}, {54, x.doubts(0)}, {55, x.stands(0)}, {55, x.stands(1)},
            {56, x.struck(0, 0)}, {57, x.drawn(0, 0, 0)}, {58, x.luck(0, 1, 0)}, {59, x.tell(1)}, {60, x.likes(0, 0, 0)}};
        for (int[] r : refused) {
            due(r[0], "without a MOUNTAIN", r[1], -2);
        }
        due(13, "gain(0) without a MOUNTAIN", x.gain(0), -1000);
        due(14, "hopes(0, 0) without a MOUNTAIN", x.hopes(0, 0), -1000);
        due(48, "left(1, 0) without a MOUNTAIN", x.left(1, 0), -1000);
        due(62, "image(0) without a MOUNTAIN", x.image(0), 0);
        due(63, "back(0) without a MOUNTAIN", x.back(0), 0);
    }
}
