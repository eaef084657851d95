/**
 * Lower by petition: a mountain told as a text, who would have it lower, and how far that goes.
 *
 * <p>Every array is made once, with the object: calls make nothing. Trials (FEET that are taken only to
 * see what would come) run on a copy of the ground, never on the mountain itself.
 */
public final class FootLower {
    public static final int NONE = -1;

    private static final int NO_SUCH = -2;
    private static final int BELOW_NOTHING = -3;
    private static final int FAULTY = -4;
    private static final int NOT_NOW = -5;
    private static final int NOTHING_THERE = -6;
    private static final int BEYOND_ROW = -7;
    private static final int OTHER_WIDTH = -8;
    private static final int NO_GAIN = -1000;

    private static final int LEAST_CELLS = 3;
    private static final int MOST_CELLS = 10;
    private static final int HIGHEST_TOLD = 40;
    private static final int HIGHEST = 99;
    private static final int MOST_FOLK = 8;
    private static final int MOST_FOLK_NAMES = 99;
    private static final int MOST_TALK = 7;
    private static final int MOST_LIKED = 9;
    private static final int MOST_LAW = 999;
    private static final int MOST_ROLL_NAME = 999;
    private static final int HOURS = 9;
    private static final int MOST_ACTS = 60;
    private static final int MOST_BYTES = 900;
    private static final int FED_BYTES = 20;
    private static final int IMAGES = 3;
    private static final int SLOTS = 4;
    private static final int WIDTHS = 4;
    private static final int MOST_NUMBERS = 60;
    private static final int MOST_HOPED = 20;
    private static final int MOST_OLD = 20;
    private static final int MOST_EACH = 4;
    private static final int MOST_GATHERED = 800;
    private static final int MOST_SHAPED = 3;
    private static final int MOST_COURSE = 60;
    private static final int MOST_MONTHS = 40;
    private static final int MOST_SEED = 2000000000;
    private static final int MOST_LUCK = 20;

    private static final int LOWERED = -1;
    private static final int RAISED = 1;

    private static final int CELL = 0;
    private static final int NAMES = 1;
    private static final int SUN = 2;
    private static final int SNOW = 3;
    private static final int VIEW = 4;
    private static final int TALK = 5;
    private static final int FRIENDS = 6;
    private static final int FACTS = 7;

    private static final int AT_END = 0;
    private static final int STRAY = 1;
    private static final int STOP = 2;
    private static final int NUMBER = 3;
    private static final int MOUNT = 4;
    private static final int SNOW_WORD = 5;
    private static final int REST = 6;
    private static final int NAMES_WORD = 7;
    private static final int FOLK = 8;
    private static final int AT = 9;
    private static final int SUN_WORD = 10;
    private static final int VIEW_WORD = 11;
    private static final int TALK_WORD = 12;
    private static final int WITH = 13;
    private static final int HEAP = 14;
    private static final int FIRST = 15;
    private static final int LAST = 16;
    // Above every bound of the language, so that a long number can't wrap into one.
    private static final int TOO_MUCH = 100000;

    private final Tape tape;
    private final Reader reader;
    private final Mountain mountain;
    private final Mountain[] images;
    private final boolean[] imaged;
    private final Slots slots;
    private final Ground trial;
    private final Petition petition;
    private final Walks walks;
    private final Shaper shaper;
    private final Course future;
    private final Shadows shadows;

    public FootLower() {
        tape = new Tape();
        reader = new Reader(tape);
        mountain = new Mountain();
        images = new Mountain[IMAGES];
        for (int k = 0; k < IMAGES; k++) {
            images[k] = new Mountain();
        }
        imaged = new boolean[IMAGES];
        slots = new Slots();
        trial = new Ground();
        petition = new Petition(mountain);
        walks = new Walks(mountain);
        shaper = new Shaper(mountain, trial);
        future = new Course(mountain, trial);
        shadows = new Shadows(mountain, slots, trial);
    }

    // ---- the text ----

    public int feed(int a, int b, int c, int d, int e) {
        if (!tape.hasRoomFor(FED_BYTES)) {
            return NONE;
        }
        tape.addNumber(a);
        tape.addNumber(b);
        tape.addNumber(c);
        tape.addNumber(d);
        tape.addNumber(e);
        return tape.size;
    }

    public int end(int n) {
        if (n < 0 || n > tape.size) {
            return NONE;
        }
        tape.size = n;
        return n;
    }

    public int mount() {
        boolean told = reader.readAll();
        // The TAPE is empty behind every mount(), a faulty one too; what stays then is the MOUNTAIN.
        tape.size = 0;
        if (!told) {
            return FAULTY;
        }
        mountain.copyFrom(reader.told);
        return mountain.lines;
    }

    public int fault(int what) {
        if (what == 0) {
            return reader.faultKind;
        }
        return what == 1 ? reader.faultPlace : NONE;
    }

    // ---- the mountain as it is now ----

    public int folk(int folk, int what) {
        if (!mountain.people.has(folk) || what < 0 || what >= FACTS) {
            return NO_SUCH;
        }
        return mountain.people.fact(folk, what);
    }

    public int height(int cell) {
        return mountain.ground.has(cell) ? mountain.ground.heightOf(cell) : NO_SUCH;
    }

    public int shade(int cell, int hour) {
        if (!mountain.ground.has(cell) || !isHour(hour)) {
            return NO_SUCH;
        }
        return mountain.ground.isShaded(cell, hour) ? 1 : 0;
    }

    public int light(int cell) {
        return mountain.ground.has(cell) ? mountain.ground.lightOf(cell) : NO_SUCH;
    }

    public int dark(int hour) {
        return mountain.isTold() && isHour(hour) ? mountain.ground.shadedCells(hour) : NO_SUCH;
    }

    public int snow() {
        return mountain.isTold() ? mountain.ground.snowyCells() : NO_SUCH;
    }

    public int top() {
        return mountain.isTold() ? mountain.ground.topCell() : NO_SUCH;
    }

    public int gain(int folk) {
        return mountain.people.has(folk) ? mountain.people.gainOn(mountain.ground, folk) : NO_GAIN;
    }

    public int hopes(int folk, int n) {
        if (!mountain.people.has(folk) || n < 0 || n > MOST_HOPED) {
            return NO_GAIN;
        }
        return future.gainAfter(folk, n) - mountain.people.gainOn(mountain.ground, folk);
    }

    public int wishes(int folk) {
        return mountain.people.has(folk) ? future.wishedFeet(folk) : NO_SUCH;
    }

    public int gains() {
        return mountain.isTold() ? mountain.people.gainsOn(mountain.ground) : NO_SUCH;
    }

    // ---- acts ----

    public int take() {
        if (!mountain.isTold()) {
            return NO_SUCH;
        }
        if (!mountain.hasRoomForAct() || mountain.ground.topHeight() == 0) {
            return NOT_NOW;
        }
        int cell = mountain.ground.topCell();
        mountain.act(cell, LOWERED);
        return cell;
    }

    public int heap(int cell) {
        if (!mountain.ground.has(cell)) {
            return NO_SUCH;
        }
        int stay = mountain.ground.stayOf(cell);
        if (!mountain.hasRoomForAct() || stay == NONE) {
            return NOT_NOW;
        }
        mountain.act(stay, RAISED);
        return stay;
    }

    public int slides(int cell) {
        return mountain.ground.has(cell) ? mountain.ground.stayOf(cell) : NO_SUCH;
    }

    public int undo() {
        if (!mountain.isTold()) {
            return NO_SUCH;
        }
        return mountain.takeBack() ? mountain.actCount : NOT_NOW;
    }

    public int anew() {
        if (!mountain.isTold()) {
            return NO_SUCH;
        }
        int acts = mountain.actCount;
        for (int i = 0; i < acts; i++) {
            mountain.takeBack();
        }
        return acts;
    }

    // ---- who signs ----

    public int willing() {
        return mountain.isTold() ? mountain.people.gainersBy(mountain.ground, LOWERED) : NO_SUCH;
    }

    public int signers(int set) {
        return mountain.hasSet(set) ? petition.signersOfWon(set) : NO_SUCH;
    }

    public int names(int set) {
        return mountain.hasSet(set) ? mountain.people.namesOf(petition.signersOfWon(set)) : NO_SUCH;
    }

    public int first() {
        if (!mountain.isTold()) {
            return NO_SUCH;
        }
        int set = petition.fewestSet();
        return set == NONE ? NONE : Integer.bitCount(set);
    }

    public int firsts() {
        return mountain.isTold() ? petition.fewestSet() : NO_SUCH;
    }

    public int next(int set) {
        return mountain.hasSet(set) ? petition.bestBeside(set) : NO_SUCH;
    }

    public int needed() {
        return mountain.isTold() ? petition.neededFolk() : NO_SUCH;
    }

    public int play(int n, int who) {
        if (!isPlay(n, who)) {
            return NO_SUCH;
        }
        return petition.playOut(n, who) ? 1 : 0;
    }

    public int moves(int n, int who) {
        if (!isPlay(n, who)) {
            return NO_SUCH;
        }
        return petition.firstMove(n, who);
    }

    // ---- gatherers ----

    public int round(int cell, int n) {
        return isWalk(cell, n) ? walks.walkOne(cell, n) : NO_SUCH;
    }

    public int goes(int cell, int n, int what) {
        if (!isWalk(cell, n) || what < 0 || what > 1) {
            return NO_SUCH;
        }
        if (walks.walkOne(cell, n) == NONE) {
            return NONE;
        }
        return what == 0 ? walks.leftmost : walks.rightmost;
    }

    public int two(int cell, int other, int n) {
        return isWalk(cell, n) && isWalk(other, n) ? walks.walkTwo(cell, other, n) : NO_SUCH;
    }

    // ---- water, cliffs, sight ----

    public int flows(int cell) {
        return mountain.ground.has(cell) ? mountain.ground.waterEnd(cell) : NO_SUCH;
    }

    public int basin(int cell) {
        return mountain.ground.has(cell) ? mountain.ground.drainedTo(cell) : NO_SUCH;
    }

    public int cliffs() {
        return mountain.isTold() ? mountain.ground.cliffPairs() : NO_SUCH;
    }

    public int springs() {
        return mountain.isTold() ? mountain.ground.waterEnds() : NO_SUCH;
    }

    public int sees(int cell) {
        return mountain.ground.has(cell) ? mountain.ground.seenFrom(cell) : NO_SUCH;
    }

    public int lookout() {
        return mountain.isTold() ? mountain.ground.bestLookout() : NO_SUCH;
    }

    // ---- the best feet ----

    public int votes(int cell, int other) {
        if (mountain.ground.heightOf(cell) == 0 || mountain.ground.heightOf(other) == 0) {
            return NO_SUCH;
        }
        shaper.weighCells();
        return shaper.votersFor(cell, other);
    }

    public int elected() {
        return mountain.isTold() ? shaper.electedCell() : NO_SUCH;
    }

    public int best() {
        if (!mountain.isTold()) {
            return NO_SUCH;
        }
        if (!shaper.canShape(1)) {
            return NONE;
        }
        shaper.shapeBy(1);
        return shaper.shapedCell(0);
    }

    public int shape(int n) {
        return shaper.canShape(n) ? shaper.shapeBy(n) : NO_SUCH;
    }

    public int shaped(int n, int i) {
        if (!shaper.canShape(n)) {
            return NO_SUCH;
        }
        shaper.shapeBy(n);
        return i < 0 || i >= n ? NONE : shaper.shapedCell(i);
    }

    public int spoil() {
        return mountain.isTold() ? shaper.spoilCell() : NO_SUCH;
    }

    // ---- how far it goes by a law ----

    public int course(int n) {
        return isLaw(n) ? future.followLaw(n) : NO_SUCH;
    }

    public int ends(int n) {
        if (!isLaw(n)) {
            return NO_SUCH;
        }
        future.followLaw(n);
        return trial.topHeight();
    }

    public int left(int n, int folk) {
        if (!isLaw(n) || !mountain.people.has(folk)) {
            return NO_GAIN;
        }
        future.followLaw(n);
        return mountain.people.gainOn(trial, folk);
    }

    public int law(int k) {
        if (!mountain.isTold() || k < 1 || k > MOST_COURSE) {
            return NO_SUCH;
        }
        return future.greatestLaw(k);
    }

    public int raisers() {
        return mountain.isTold() ? mountain.people.gainersBy(mountain.ground, RAISED) : NO_SUCH;
    }

    // ---- old heights by shadows ----

    public int old(int slot) {
        int refused = shadows.load(slot);
        return refused != 0 ? refused : shadows.possible;
    }

    public int ask(int slot, int cell) {
        if (!mountain.ground.has(cell)) {
            return NO_SUCH;
        }
        int refused = shadows.load(slot);
        return refused != 0 ? refused : shadows.hourToMeasure(cell);
    }

    public int leaves(int slot, int cell) {
        if (!mountain.ground.has(cell)) {
            return NO_SUCH;
        }
        int refused = shadows.load(slot);
        if (refused != 0) {
            return refused;
        }
        shadows.hourToMeasure(cell);
        return shadows.leftAtWorst;
    }

    public int doubts(int slot) {
        int refused = shadows.load(slot);
        return refused != 0 ? refused : shadows.doubtful();
    }

    // ---- names that are struck ----

    public int stands(int slot) {
        int refused = rollRefusal(slot);
        return refused != 0 ? refused : mountain.people.standing(slots, slot, 0);
    }

    public int struck(int slot, int what) {
        if (what < 0 || what > 1) {
            return NO_SUCH;
        }
        int refused = rollRefusal(slot);
        return refused != 0 ? refused : mountain.people.standing(slots, slot, what + 1);
    }

    // ---- months drawn ----

    public int drawn(int seed, int n, int what) {
        if (!isDraw(seed, n) || what < 0 || what > 2) {
            return NO_SUCH;
        }
        int feet = future.drawMonths(seed, n, MOST_MONTHS);
        if (what == 0) {
            return feet;
        }
        return what == 1 ? trial.topHeight() : mountain.people.gainsOn(trial);
    }

    public int luck(int seed, int m, int n) {
        if (!isDraw(seed, n) || m < 1 || m > MOST_LUCK) {
            return NO_SUCH;
        }
        int lucky = 0;
        for (int i = 0; i < m; i++) {
            if (future.drawMonths(seed + i, n, 1) > 0) {
                lucky++;
            }
        }
        return lucky;
    }

    // ---- what is told anew ----

    public int tell(int n) {
        if (!isLaw(n)) {
            return NO_SUCH;
        }
        if (mountain.actCount > 0) {
            return NOT_NOW;
        }
        int was = mountain.lawNames;
        mountain.lawNames = n;
        return was;
    }

    public int likes(int folk, int what, int n) {
        if (!mountain.people.has(folk) || what < 0 || what > 2 || n < 0 || n > MOST_LIKED) {
            return NO_SUCH;
        }
        if (mountain.actCount > 0) {
            return NOT_NOW;
        }
        int was = mountain.people.fact(folk, SUN + what);
        mountain.people.setFact(folk, SUN + what, n);
        return was;
    }

    public int count(int what) {
        switch (what) {
            case 0:
                return mountain.ground.cells;
            case 1:
                return mountain.people.size;
            case 2:
                return mountain.ground.snowLine;
            case 3:
                return mountain.ground.rest;
            case 4:
                return mountain.lawNames;
            case 5:
                return mountain.heapCell;
            case 6:
                return mountain.lines;
            case 7:
                return tape.size;
            case 8:
                return mountain.actCount;
            case 9:
                return slots.rows();
            default:
                return NONE;
        }
    }

    // ---- images ----

    public int image(int k) {
        if (k < 0 || k >= IMAGES) {
            return NO_SUCH;
        }
        images[k].copyFrom(mountain);
        imaged[k] = true;
        return 0;
    }

    public int back(int k) {
        if (k < 0 || k >= IMAGES) {
            return NO_SUCH;
        }
        if (!imaged[k]) {
            return NOTHING_THERE;
        }
        mountain.copyFrom(images[k]);
        return 0;
    }

    // ---- slots ----

    public int row(int slot, int width, int n) {
        if (!slots.has(slot) || width < 0 || width >= WIDTHS || n > MOST_NUMBERS) {
            return NO_SUCH;
        }
        if (n < 0) {
            return BELOW_NOTHING;
        }
        slots.lay(slot, width, n);
        return 0;
    }

    public int write(int slot, int i, long v) {
        if (!slots.has(slot)) {
            return NO_SUCH;
        }
        if (!slots.isLaid(slot)) {
            return NOTHING_THERE;
        }
        if (i < 0 || i >= slots.sizeOf(slot)) {
            return BEYOND_ROW;
        }
        slots.put(slot, i, v);
        return 0;
    }

    public int paste(int slot, int i, int to, int k, int n) {
        if (!slots.has(slot) || !slots.has(to)) {
            return NO_SUCH;
        }
        if (!slots.isLaid(slot) || !slots.isLaid(to)) {
            return NOTHING_THERE;
        }
        if (slots.widthOf(slot) != slots.widthOf(to)) {
            return OTHER_WIDTH;
        }
        if (!slots.spans(slot, i, n) || !slots.spans(to, k, n)) {
            return BEYOND_ROW;
        }
        slots.move(slot, i, to, k, n);
        return 0;
    }

    // ---- what a call may ask for ----

    private static boolean isHour(int hour) {
        return hour != 0 && hour >= -HOURS && hour <= HOURS;
    }

    private boolean isPlay(int n, int who) {
        return mountain.isTold() && n >= 0 && n <= MOST_EACH && who >= 0 && who <= 1;
    }

    private boolean isWalk(int cell, int n) {
        return mountain.ground.has(cell) && n >= 1 && n <= MOST_GATHERED;
    }

    private boolean isLaw(int n) {
        return mountain.isTold() && n >= 1 && n <= MOST_LAW;
    }

    private boolean isDraw(int seed, int n) {
        return mountain.isTold() && seed >= 0 && seed <= MOST_SEED && n >= 0 && n <= MOST_MONTHS;
    }

    private int rollRefusal(int slot) {
        if (!slots.has(slot) || !mountain.isTold()) {
            return NO_SUCH;
        }
        if (!slots.isLaid(slot)) {
            return NOTHING_THERE;
        }
        return mountain.people.isRoll(slots, slot) ? 0 : NO_SUCH;
    }

    /** The bytes that were fed, and the TOKENS that they are cut into. */
    private static final class Tape {
        private final byte[] bytes = new byte[MOST_BYTES];
        private int size;
        // One TOKEN more than bytes: the end is one, too.
        private final int[] kinds = new int[MOST_BYTES + 1];
        private final int[] places = new int[MOST_BYTES + 1];
        private final int[] values = new int[MOST_BYTES + 1];
        private int tokens;

        boolean hasRoomFor(int more) {
            return size + more <= MOST_BYTES;
        }

        void addNumber(int number) {
            for (int shift = 24; shift >= 0; shift -= 8) {
                if (size >= 0 && size < bytes.length) {
                    bytes[size] = (byte) (number >> shift);
                    size++;
                }
            }
        }

        private int byteAt(int place) {
            return place >= 0 && place < size && place < bytes.length ? bytes[place] & 255 : NONE;
        }

        void cutTokens() {
            tokens = 0;
            int at = 0;
            for (int i = 0; i < MOST_BYTES && at < size; i++) {
                int b = byteAt(at);
                int behind = at + 1;
                if (isLetter(b)) {
                    behind = wordEnd(at);
                    addToken(wordKind(at, behind), at, 0);
                } else if (isDigit(b)) {
                    behind = numberEnd(at);
                    addToken(NUMBER, at, numberOf(at, behind));
                } else if (b != ' ' && b != '\n') {
                    addToken(b == ';' ? STOP : STRAY, at, 0);
                }
                at = behind;
            }
            addToken(AT_END, size, 0);
        }

        private void addToken(int kind, int place, int value) {
            if (tokens >= 0 && tokens < kinds.length) {
                kinds[tokens] = kind;
                places[tokens] = place;
                values[tokens] = value;
                tokens++;
            }
        }

        private int wordEnd(int from) {
            int at = from;
            for (int i = 0; i < MOST_BYTES && isLetter(byteAt(at)); i++) {
                at++;
            }
            return at;
        }

        private int numberEnd(int from) {
            int at = from;
            for (int i = 0; i < MOST_BYTES && isDigit(byteAt(at)); i++) {
                at++;
            }
            return at;
        }

        private int numberOf(int from, int behind) {
            int number = 0;
            for (int at = from; at < behind; at++) {
                if (number < TOO_MUCH) {
                    number = number * 10 + byteAt(at) - '0';
                }
            }
            return number;
        }

        /** A word that the language has not can't stand anywhere, as a stray byte can't. */
        private int wordKind(int from, int behind) {
            for (int kind = MOUNT; kind <= LAST; kind++) {
                if (isText(from, behind, textOf(kind))) {
                    return kind;
                }
            }
            return STRAY;
        }

        private boolean isText(int from, int behind, String word) {
            if (behind - from != word.length()) {
                return false;
            }
            for (int i = 0; i < word.length(); i++) {
                if (byteAt(from + i) != word.charAt(i)) {
                    return false;
                }
            }
            return true;
        }

        private static String textOf(int kind) {
            switch (kind) {
                case MOUNT:
                    return "mount";
                case SNOW_WORD:
                    return "snow";
                case REST:
                    return "rest";
                case NAMES_WORD:
                    return "names";
                case FOLK:
                    return "folk";
                case AT:
                    return "at";
                case SUN_WORD:
                    return "sun";
                case VIEW_WORD:
                    return "view";
                case TALK_WORD:
                    return "talk";
                case WITH:
                    return "with";
                case HEAP:
                    return "heap";
                case FIRST:
                    return "first";
                default:
                    return "last";
            }
        }

        private static boolean isLetter(int b) {
            return b >= 'a' && b <= 'z';
        }

        private static boolean isDigit(int b) {
            return b >= '0' && b <= '9';
        }
    }

    /** Reads the TOKENS of a TAPE into a MOUNTAIN of its own, up to the first FAULT. */
    private static final class Reader {
        private final Tape tape;
        private final Mountain told = new Mountain();
        private int upcoming;
        private int kind;
        private int place;
        private int value;
        private int faultKind;
        private int faultPlace = NONE;

        Reader(Tape read) {
            tape = read;
        }

        boolean readAll() {
            tape.cutTokens();
            told.clear();
            faultKind = 0;
            faultPlace = NONE;
            upcoming = 0;
            advance();
            for (int i = 0; i < MOST_BYTES && kind != AT_END; i++) {
                if (!readLine()) {
                    return false;
                }
                told.lines++;
            }
            return true;
        }

        private void advance() {
            if (upcoming >= 0 && upcoming < tape.tokens && upcoming < tape.kinds.length) {
                kind = tape.kinds[upcoming];
                place = tape.places[upcoming];
                value = tape.values[upcoming];
                upcoming++;
            }
        }

        private boolean refuse(int fault) {
            faultKind = fault;
            faultPlace = place;
            return false;
        }

        private boolean pass(int due) {
            if (kind != due) {
                return refuse(1);
            }
            advance();
            return true;
        }

        private boolean isNumber(int least, int most) {
            if (kind != NUMBER) {
                return refuse(1);
            }
            return (value >= least && value <= most) || refuse(2);
        }

        private int passNumber() {
            int number = value;
            advance();
            return number;
        }

        private boolean readLine() {
            boolean fine;
            if (told.lines == 0) {
                fine = readMountain();
            } else {
                fine = kind == FOLK ? readFolk() : readHeap();
            }
            return fine && pass(STOP);
        }

        private boolean readMountain() {
            Ground ground = told.ground;
            if (!pass(MOUNT) || !readHeights(ground) || !pass(SNOW_WORD) || !isNumber(0, HIGHEST_TOLD)) {
                return false;
            }
            ground.snowLine = passNumber();
            if (!pass(REST) || !isNumber(1, HIGHEST_TOLD)) {
                return false;
            }
            ground.rest = passNumber();
            if (!pass(NAMES_WORD) || !isNumber(1, MOST_LAW)) {
                return false;
            }
            told.lawNames = passNumber();
            ground.lastSide = kind == LAST;
            return pass(ground.lastSide ? LAST : FIRST);
        }

        private boolean readHeights(Ground ground) {
            for (int i = 0; i <= MOST_CELLS && kind == NUMBER; i++) {
                if (!isNumber(0, HIGHEST_TOLD)) {
                    return false;
                }
                if (i == MOST_CELLS) {
                    return refuse(3);
                }
                ground.addCell(passNumber());
            }
            return ground.cells >= LEAST_CELLS || refuse(1);
        }

        private boolean readFolk() {
            int folk = told.people.size;
            if (folk >= MOST_FOLK) {
                return refuse(3);
            }
            told.people.size++;
            return pass(FOLK)
                && readFact(folk, AT, CELL, 0, told.ground.cells - 1)
                && readFact(folk, NAMES_WORD, NAMES, 1, MOST_FOLK_NAMES)
                && readFact(folk, SUN_WORD, SUN, 0, MOST_LIKED)
                && readFact(folk, SNOW_WORD, SNOW, 0, MOST_LIKED)
                && readFact(folk, VIEW_WORD, VIEW, 0, MOST_LIKED)
                && (kind != TALK_WORD || readTalk(folk));
        }

        private boolean readFact(int folk, int word, int fact, int least, int most) {
            if (!pass(word) || !isNumber(least, most)) {
                return false;
            }
            told.people.setFact(folk, fact, passNumber());
            return true;
        }

        private boolean readTalk(int folk) {
            if (!readFact(folk, TALK_WORD, TALK, 1, MOST_TALK) || !pass(WITH) || !isNumber(0, folk - 1)) {
                return false;
            }
            told.people.befriend(folk, passNumber());
            for (int i = 0; i < MOST_BYTES && kind == NUMBER; i++) {
                if (!isNumber(0, folk - 1)) {
                    return false;
                }
                told.people.befriend(folk, passNumber());
            }
            return true;
        }

        private boolean readHeap() {
            if (!pass(HEAP) || !isNumber(0, told.ground.cells - 1)) {
                return false;
            }
            told.heapCell = passNumber();
            return true;
        }
    }

    /** The heights of CELLS, and what follows from heights alone. */
    private static final class Ground {
        private final int[] heights = new int[MOST_CELLS];
        private int cells;
        private int snowLine;
        private int rest;
        private boolean lastSide;

        void clear() {
            cells = 0;
            snowLine = 0;
            rest = 0;
            lastSide = false;
        }

        void copyFrom(Ground other) {
            for (int c = 0; c < MOST_CELLS; c++) {
                heights[c] = other.heights[c];
            }
            cells = other.cells;
            snowLine = other.snowLine;
            rest = other.rest;
            lastSide = other.lastSide;
        }

        void addCell(int height) {
            if (cells >= 0 && cells < heights.length) {
                heights[cells] = height;
                cells++;
            }
        }

        boolean has(int cell) {
            return cell >= 0 && cell < cells && cell < heights.length;
        }

        /** 0 where there is no CELL: nothing is shaded by it, and no FOOT is there to be taken. */
        int heightOf(int cell) {
            return cell >= 0 && cell < cells && cell < heights.length ? heights[cell] : 0;
        }

        void change(int cell, int feet) {
            if (has(cell)) {
                heights[cell] += feet;
            }
        }

        int topCell() {
            int found = NONE;
            for (int c = 0; c < cells; c++) {
                int above = heightOf(c) - heightOf(found);
                if (found == NONE || above > 0 || (above == 0 && lastSide)) {
                    found = c;
                }
            }
            return found;
        }

        int topHeight() {
            int top = 0;
            for (int c = 0; c < cells; c++) {
                int height = heightOf(c);
                if (height > top) {
                    top = height;
                }
            }
            return top;
        }

        int feetInAll() {
            int feet = 0;
            for (int c = 0; c < cells; c++) {
                feet += heightOf(c);
            }
            return feet;
        }

        /** In how many HOURS, from 1 on, a CELL is shaded from one side: a lesser HOUR shades no less. */
        int shadedHours(int cell, int step) {
            if (cell < 0 || cell >= cells || cell >= heights.length) {
                return 0;
            }
            int hours = 0;
            for (int away = 1; away < MOST_CELLS; away++) {
                int at = cell + step * away;
                if (at < 0 || at >= cells || at >= heights.length) {
                    break;
                }
                int above = heights[at] - heights[cell];
                if (above > 0 && (above - 1) / away > hours) {
                    hours = (above - 1) / away;
                }
            }
            return hours < HOURS ? hours : HOURS;
        }

        boolean isShaded(int cell, int hour) {
            return hour > 0 ? hour <= shadedHours(cell, -1) : -hour <= shadedHours(cell, 1);
        }

        int lightOf(int cell) {
            return 2 * HOURS - shadedHours(cell, -1) - shadedHours(cell, 1);
        }

        int shadedCells(int hour) {
            int bits = 0;
            for (int c = 0; c < cells; c++) {
                if (isShaded(c, hour)) {
                    bits |= 1 << c;
                }
            }
            return bits;
        }

        int snowyCells() {
            int bits = 0;
            for (int c = 0; c < cells; c++) {
                if (heightOf(c) >= snowLine) {
                    bits |= 1 << c;
                }
            }
            return bits;
        }

        /** Takes a FOOT from TOP, if there is one. */
        boolean lower() {
            int cell = topCell();
            if (heightOf(cell) == 0) {
                return false;
            }
            change(cell, -1);
            return true;
        }

        /** The lower one of the CELLS beside one that are lower than it by more than the slack says. */
        private int wayDown(int cell, int slack) {
            int limit = heightOf(cell) - slack;
            boolean toLeft = has(cell - 1) && heightOf(cell - 1) < limit;
            boolean toRight = has(cell + 1) && heightOf(cell + 1) < limit;
            if (toLeft && (!toRight || heightOf(cell - 1) <= heightOf(cell + 1))) {
                return cell - 1;
            }
            return toRight ? cell + 1 : NONE;
        }

        private int descend(int cell, int slack) {
            int at = cell;
            for (int i = 0; i < MOST_CELLS; i++) {
                int down = wayDown(at, slack);
                if (down == NONE) {
                    return at;
                }
                at = down;
            }
            return at;
        }

        int waterEnd(int cell) {
            return descend(cell, 0);
        }

        /** Where a FOOT heaped on a CELL stays; NONE if it is too high there already. */
        int stayOf(int cell) {
            // The FOOT itself stands on the CELL, which is why one less than rest is enough.
            int stay = descend(cell, rest - 1);
            return heightOf(stay) >= HIGHEST ? NONE : stay;
        }

        int drainedTo(int cell) {
            int bits = 0;
            for (int c = 0; c < cells; c++) {
                if (waterEnd(c) == cell) {
                    bits |= 1 << c;
                }
            }
            return bits;
        }

        int waterEnds() {
            int bits = 0;
            for (int c = 0; c < cells; c++) {
                bits |= 1 << waterEnd(c);
            }
            return bits;
        }

        int cliffPairs() {
            int pairs = 0;
            for (int c = 1; c < cells; c++) {
                int apart = heightOf(c) - heightOf(c - 1);
                if (apart > rest || -apart > rest) {
                    pairs++;
                }
            }
            return pairs;
        }

        int seenFrom(int cell) {
            int bits = 0;
            for (int c = 0; c < cells; c++) {
                if (cell < c ? isOpen(cell, c) : isOpen(c, cell)) {
                    bits |= 1 << c;
                }
            }
            return bits;
        }

        private boolean isOpen(int from, int to) {
            int rise = heightOf(to) - heightOf(from);
            for (int c = from + 1; c < to; c++) {
                if ((heightOf(c) - heightOf(from)) * (to - from) > rise * (c - from)) {
                    return false;
                }
            }
            return true;
        }

        int bestLookout() {
            int found = NONE;
            int most = 0;
            for (int c = 0; c < cells; c++) {
                int seen = Integer.bitCount(seenFrom(c));
                if (seen > most) {
                    most = seen;
                    found = c;
                }
            }
            return found;
        }
    }

    /** FOLK: what they like, whom they talk to, who signs. Sets of FOLK are bits. */
    private static final class People {
        private final int[] facts = new int[MOST_FOLK * FACTS];
        private final int[] gainsBefore = new int[MOST_FOLK];
        private final int[] gainsAfter = new int[MOST_FOLK];
        private int size;

        void clear() {
            size = 0;
            for (int i = 0; i < facts.length; i++) {
                facts[i] = 0;
            }
        }

        void copyFrom(People other) {
            for (int i = 0; i < facts.length; i++) {
                facts[i] = other.facts[i];
            }
            size = other.size;
        }

        boolean has(int folk) {
            return folk >= 0 && folk < size && folk < MOST_FOLK;
        }

        int fact(int folk, int what) {
            boolean told = folk >= 0 && folk < MOST_FOLK && what >= 0 && what < FACTS;
            return told ? facts[folk * FACTS + what] : 0;
        }

        void setFact(int folk, int what, int value) {
            if (folk >= 0 && folk < MOST_FOLK && what >= 0 && what < FACTS) {
                facts[folk * FACTS + what] = value;
            }
        }

        void befriend(int folk, int other) {
            setFact(folk, FRIENDS, fact(folk, FRIENDS) | 1 << other);
            setFact(other, FRIENDS, fact(other, FRIENDS) | 1 << folk);
        }

        int gainOn(Ground ground, int folk) {
            fillGains(ground, gainsAfter, 0);
            return folk >= 0 && folk < MOST_FOLK ? gainsAfter[folk] : 0;
        }

        int gainsOn(Ground ground) {
            fillGains(ground, gainsAfter, 0);
            int sum = 0;
            for (int f = 0; f < size && f < MOST_FOLK; f++) {
                sum += gainsAfter[f];
            }
            return sum;
        }

        /** GAIN of each FOLK, put into a row from one place on. */
        void fillGains(Ground ground, int[] gains, int from) {
            int snowy = Integer.bitCount(ground.snowyCells());
            int top = ground.topHeight();
            for (int f = 0; f < size; f++) {
                int sun = fact(f, SUN);
                int bySun = sun == 0 ? 0 : sun * ground.lightOf(fact(f, CELL));
                int at = from + f;
                if (at >= 0 && at < gains.length) {
                    gains[at] = bySun + fact(f, SNOW) * snowy + fact(f, VIEW) * top;
                }
            }
        }

        /** FOLK whose GAIN is greater when a FOOT is taken from TOP (LOWERED) or put on it (RAISED). */
        int gainersBy(Ground ground, int feet) {
            int cell = ground.topCell();
            if (ground.heightOf(cell) + feet < 0) {
                return 0;
            }
            fillGains(ground, gainsBefore, 0);
            ground.change(cell, feet);
            fillGains(ground, gainsAfter, 0);
            ground.change(cell, -feet);
            int bits = 0;
            for (int f = 0; f < size && f < MOST_FOLK; f++) {
                if (gainsAfter[f] > gainsBefore[f]) {
                    bits |= 1 << f;
                }
            }
            return bits;
        }

        /** Those who are sure to sign, and all whom talk brings; who is barred neither signs nor counts. */
        int signersOf(int sure, int barred) {
            int signing = sure & ~barred;
            // Each pass but the last brings one at least.
            for (int pass = 0; pass < MOST_FOLK; pass++) {
                int already = signing;
                for (int f = 0; f < size; f++) {
                    int talk = fact(f, TALK);
                    boolean brought = talk > 0 && Integer.bitCount(fact(f, FRIENDS) & signing) >= talk;
                    if (brought && (barred >> f & 1) == 0) {
                        signing |= 1 << f;
                    }
                }
                if (signing == already) {
                    break;
                }
            }
            return signing;
        }

        int namesOf(int set) {
            int sum = 0;
            for (int f = 0; f < size; f++) {
                if ((set >> f & 1) == 1) {
                    sum += fact(f, NAMES);
                }
            }
            return sum;
        }

        /** Whether a row is one of pairs: a FOLK, and what could be a name of it. */
        boolean isRoll(Slots slots, int slot) {
            int numbers = slots.sizeOf(slot);
            if (numbers % 2 != 0) {
                return false;
            }
            for (int i = 0; i < numbers; i += 2) {
                long folk = slots.numberAt(slot, i);
                long name = slots.numberAt(slot, i + 1);
                if (folk < 0 || folk >= size || name < 0 || name > MOST_ROLL_NAME) {
                    return false;
                }
            }
            return true;
        }

        /** Pairs of a roll that stand (0), that are there already (1), that the FOLK has not (2). */
        int standing(Slots slots, int slot, int how) {
            int counted = 0;
            for (int i = 0; i < slots.sizeOf(slot); i += 2) {
                if (howStands(slots, slot, i) == how) {
                    counted++;
                }
            }
            return counted;
        }

        private int howStands(Slots slots, int slot, int at) {
            long folk = slots.numberAt(slot, at);
            long name = slots.numberAt(slot, at + 1);
            for (int i = 0; i < at; i += 2) {
                if (slots.numberAt(slot, i) == folk && slots.numberAt(slot, i + 1) == name) {
                    return 1;
                }
            }
            return name < fact((int) folk, NAMES) ? 0 : 2;
        }
    }

    /** A MOUNTAIN with its FOLK and law, and the acts that are not taken back. */
    private static final class Mountain {
        private final Ground ground = new Ground();
        private final People people = new People();
        // An act is the CELL's number and one, below 0 if a FOOT was taken there.
        private final int[] acts = new int[MOST_ACTS];
        private int actCount;
        private int lawNames;
        private int heapCell;
        private int lines;

        void clear() {
            ground.clear();
            people.clear();
            actCount = 0;
            lawNames = 0;
            heapCell = 0;
            lines = 0;
        }

        void copyFrom(Mountain other) {
            ground.copyFrom(other.ground);
            people.copyFrom(other.people);
            for (int i = 0; i < MOST_ACTS; i++) {
                acts[i] = other.acts[i];
            }
            actCount = other.actCount;
            lawNames = other.lawNames;
            heapCell = other.heapCell;
            lines = other.lines;
        }

        boolean isTold() {
            return lines > 0;
        }

        boolean hasSet(int set) {
            return isTold() && set >= 0 && set < 1 << people.size;
        }

        boolean hasRoomForAct() {
            return actCount >= 0 && actCount < MOST_ACTS;
        }

        void act(int cell, int feet) {
            if (hasRoomForAct()) {
                ground.change(cell, feet);
                acts[actCount] = feet * (cell + 1);
                actCount++;
            }
        }

        boolean takeBack() {
            if (actCount < 1 || actCount > MOST_ACTS) {
                return false;
            }
            actCount--;
            int latest = acts[actCount];
            if (latest < 0) {
                ground.change(-latest - 1, 1);
            } else {
                ground.change(latest - 1, -1);
            }
            return true;
        }

        /** Whether names are ENOUGH, by those who are sure to sign and those who are barred. */
        boolean isEnough(int sure, int barred) {
            return people.namesOf(people.signersOf(sure, barred)) >= lawNames;
        }
    }

    /** Whom to win: first, next, without whom it fails, and in a PLAY against one who bars. */
    private static final class Petition {
        private static final int[] THREES = {1, 3, 9, 27, 81, 243, 729, 2187};
        private static final int UNKNOWN = 0;
        private static final int ENOUGH = 1;
        private static final int TOO_FEW = 2;

        private final Mountain mountain;
        // What a PLAY comes to, by who is free (0), won (1), barred (2), a digit of base 3 for each FOLK.
        private final byte[] outcomes = new byte[6561];
        private int willing;
        private int turns;
        private int starter;

        Petition(Mountain played) {
            mountain = played;
        }

        int signersOfWon(int set) {
            return mountain.people.signersOf(mountain.people.gainersBy(mountain.ground, LOWERED) | set, 0);
        }

        /** The least set of the fewest FOLK by whom it is ENOUGH. */
        int fewestSet() {
            int sure = mountain.people.gainersBy(mountain.ground, LOWERED);
            int found = NONE;
            int fewest = MOST_FOLK + 1;
            for (int set = 0; set < 1 << mountain.people.size; set++) {
                int won = Integer.bitCount(set);
                if (won < fewest && mountain.isEnough(sure | set, 0)) {
                    fewest = won;
                    found = set;
                }
            }
            return found;
        }

        int bestBeside(int set) {
            int sure = mountain.people.gainersBy(mountain.ground, LOWERED) | set;
            int found = NONE;
            int most = mountain.people.namesOf(mountain.people.signersOf(sure, 0));
            for (int f = 0; f < mountain.people.size; f++) {
                int names = mountain.people.namesOf(mountain.people.signersOf(sure | 1 << f, 0));
                if (names > most) {
                    most = names;
                    found = f;
                }
            }
            return found;
        }

        int neededFolk() {
            int sure = mountain.people.gainersBy(mountain.ground, LOWERED);
            if (!mountain.isEnough(sure, 0)) {
                return 0;
            }
            int bits = 0;
            for (int f = 0; f < mountain.people.size; f++) {
                if (!mountain.isEnough(sure, 1 << f)) {
                    bits |= 1 << f;
                }
            }
            return bits;
        }

        boolean playOut(int each, int who) {
            begin(each, who);
            return comesOut(0, 0, 0, 0);
        }

        /** The least FOLK by which the one who begins has what he wants, or else the least of all. */
        int firstMove(int each, int who) {
            if (each == 0 || mountain.people.size == 0) {
                return NONE;
            }
            begin(each, who);
            boolean wanted = who == 0;
            for (int f = 0; f < mountain.people.size; f++) {
                if (comesOutBy(f, 0, 0, 0, 0) == wanted) {
                    return f;
                }
            }
            return 0;
        }

        private void begin(int each, int who) {
            willing = mountain.people.gainersBy(mountain.ground, LOWERED);
            turns = 2 * each;
            starter = who;
            for (int i = 0; i < outcomes.length; i++) {
                outcomes[i] = UNKNOWN;
            }
        }

        private boolean winsNow(int moved) {
            return (moved + starter & 1) == 0;
        }

        /** Whether it is ENOUGH in the end; so many have moved, of turns that are eight at most. */
        private boolean comesOut(int won, int barred, int moved, int key) {
            boolean allMoved = (won | barred) == (1 << mountain.people.size) - 1;
            if (allMoved || moved >= turns || key < 0 || key >= outcomes.length) {
                return mountain.isEnough(willing | won, barred);
            }
            if (outcomes[key] == UNKNOWN) {
                boolean wanted = winsNow(moved);
                boolean enough = canReach(wanted, won, barred, moved, key) == wanted;
                outcomes[key] = (byte) (enough ? ENOUGH : TOO_FEW);
            }
            return outcomes[key] == ENOUGH;
        }

        /** Whether the one whose turn it is has a move by which it comes out as he wants. */
        private boolean canReach(boolean wanted, int won, int barred, int moved, int key) {
            for (int f = 0; f < mountain.people.size; f++) {
                if (((won | barred) >> f & 1) == 0 && comesOutBy(f, won, barred, moved, key) == wanted) {
                    return true;
                }
            }
            return false;
        }

        private boolean comesOutBy(int folk, int won, int barred, int moved, int key) {
            int digit = folk >= 0 && folk < THREES.length ? THREES[folk] : 0;
            if (winsNow(moved)) {
                return comesOut(won | 1 << folk, barred, moved + 1, key + digit);
            }
            return comesOut(won, barred | 1 << folk, moved + 1, key + 2 * digit);
        }
    }

    /** Rounds of gatherers: a way is the stretch of CELLS to which one comes. */
    private static final class Walks {
        private final Mountain mountain;
        // Names of WILLING FOLK of all CELLS of a lesser number.
        private final int[] namesAhead = new int[MOST_CELLS + 1];
        private int leftmost;
        private int rightmost;

        Walks(Mountain walked) {
            mountain = walked;
        }

        private void gatherNames() {
            int willing = mountain.people.gainersBy(mountain.ground, LOWERED);
            for (int c = 0; c < MOST_CELLS; c++) {
                int here = 0;
                for (int f = 0; f < mountain.people.size; f++) {
                    if ((willing >> f & 1) == 1 && mountain.people.fact(f, CELL) == c) {
                        here += mountain.people.fact(f, NAMES);
                    }
                }
                namesAhead[c + 1] = namesAhead[c] + here;
            }
        }

        /** Names of a stretch, 0 if it has no CELL. */
        private int namesWithin(int from, int to) {
            if (from > to || from < 0 || to + 1 >= namesAhead.length) {
                return 0;
            }
            return namesAhead[to + 1] - namesAhead[from];
        }

        private int namesOfBoth(int from, int to, int otherFrom, int otherTo) {
            int common = namesWithin(Math.max(from, otherFrom), Math.min(to, otherTo));
            return namesWithin(from, to) + namesWithin(otherFrom, otherTo) - common;
        }

        /** He turns once, at the nearer end. */
        private static int stepsOf(int cell, int from, int to) {
            return to - from + Math.min(cell - from, to - cell);
        }

        int walkOne(int cell, int n) {
            gatherNames();
            int fewest = NONE;
            for (int from = 0; from <= cell; from++) {
                for (int to = cell; to < mountain.ground.cells; to++) {
                    int steps = stepsOf(cell, from, to);
                    if ((fewest == NONE || steps < fewest) && namesWithin(from, to) >= n) {
                        fewest = steps;
                        leftmost = from;
                        rightmost = to;
                    }
                }
            }
            return fewest;
        }

        int walkTwo(int cell, int other, int n) {
            gatherNames();
            int fewest = NONE;
            for (int from = 0; from <= cell; from++) {
                for (int to = cell; to < mountain.ground.cells; to++) {
                    int steps = besides(other, n, from, to);
                    if (steps != NONE) {
                        steps = Math.max(steps, stepsOf(cell, from, to));
                        fewest = fewest == NONE ? steps : Math.min(fewest, steps);
                    }
                }
            }
            return fewest;
        }

        /** The fewest steps of the other one, when the first comes to a stretch. */
        private int besides(int other, int n, int from, int to) {
            int fewest = NONE;
            for (int otherFrom = 0; otherFrom <= other; otherFrom++) {
                for (int otherTo = other; otherTo < mountain.ground.cells; otherTo++) {
                    int steps = stepsOf(other, otherFrom, otherTo);
                    if ((fewest == NONE || steps < fewest) && namesOfBoth(from, to, otherFrom, otherTo) >= n) {
                        fewest = steps;
                    }
                }
            }
            return fewest;
        }
    }

    /** Which FEET are best taken, or heaped, for the GAINS of FOLK. */
    private static final class Shaper {
        private final Mountain mountain;
        private final Ground trial;
        // GAIN of a FOLK with a FOOT taken from a CELL, where there is one.
        private final int[] weights = new int[MOST_CELLS * MOST_FOLK];
        private final int[] way = new int[MOST_SHAPED];
        private final int[] bestWay = new int[MOST_SHAPED];
        private int bestGains;
        private boolean found;

        Shaper(Mountain shaped, Ground lent) {
            mountain = shaped;
            trial = lent;
        }

        void weighCells() {
            trial.copyFrom(mountain.ground);
            for (int c = 0; c < trial.cells; c++) {
                if (trial.heightOf(c) > 0) {
                    trial.change(c, -1);
                    mountain.people.fillGains(trial, weights, c * MOST_FOLK);
                    trial.change(c, 1);
                }
            }
        }

        private int weightOf(int cell, int folk) {
            int at = cell * MOST_FOLK + folk;
            return at >= 0 && at < weights.length ? weights[at] : 0;
        }

        int votersFor(int cell, int other) {
            int bits = 0;
            for (int f = 0; f < mountain.people.size; f++) {
                if (weightOf(cell, f) > weightOf(other, f)) {
                    bits |= 1 << f;
                }
            }
            return bits;
        }

        int electedCell() {
            weighCells();
            for (int c = 0; c < mountain.ground.cells; c++) {
                if (mountain.ground.heightOf(c) > 0 && isUnbeaten(c)) {
                    return c;
                }
            }
            return NONE;
        }

        private boolean isUnbeaten(int cell) {
            for (int other = 0; other < mountain.ground.cells; other++) {
                if (mountain.ground.heightOf(other) > 0) {
                    int names = mountain.people.namesOf(votersFor(cell, other));
                    if (names < mountain.people.namesOf(votersFor(other, cell))) {
                        return false;
                    }
                }
            }
            return true;
        }

        boolean canShape(int n) {
            return mountain.isTold() && n >= 0 && n <= MOST_SHAPED && mountain.ground.feetInAll() >= n;
        }

        int shapeBy(int n) {
            trial.copyFrom(mountain.ground);
            found = false;
            search(n, 0, 0);
            return bestGains;
        }

        int shapedCell(int i) {
            return i >= 0 && i < bestWay.length ? bestWay[i] : NONE;
        }

        /** Ways are tried from the least row on, so that the first of several like ones is kept. */
        private void search(int n, int depth, int from) {
            if (depth >= n || depth >= MOST_SHAPED) {
                keepIfBetter();
                return;
            }
            for (int c = from; c < trial.cells; c++) {
                if (trial.heightOf(c) > 0) {
                    trial.change(c, -1);
                    way[depth] = c;
                    search(n, depth + 1, c);
                    trial.change(c, 1);
                }
            }
        }

        private void keepIfBetter() {
            int gains = mountain.people.gainsOn(trial);
            if (found && gains <= bestGains) {
                return;
            }
            found = true;
            bestGains = gains;
            for (int i = 0; i < MOST_SHAPED; i++) {
                bestWay[i] = way[i];
            }
        }

        int spoilCell() {
            trial.copyFrom(mountain.ground);
            int cell = NONE;
            int most = 0;
            for (int c = 0; c < trial.cells; c++) {
                int stay = trial.stayOf(c);
                if (stay != NONE) {
                    trial.change(stay, 1);
                    int gains = mountain.people.gainsOn(trial);
                    trial.change(stay, -1);
                    if (cell == NONE || gains > most) {
                        cell = c;
                        most = gains;
                    }
                }
            }
            return cell;
        }
    }

    /** What comes of FEET taken one behind another: by wish, by a law, by MONTHS drawn. */
    private static final class Course {
        private static final long FACTOR = 1103515245L;
        private static final long ADDEND = 12345L;
        private static final long MASK = 2147483647L;

        private final Mountain mountain;
        private final Ground trial;

        Course(Mountain lowered, Ground lent) {
            mountain = lowered;
            trial = lent;
        }

        int gainAfter(int folk, int feet) {
            trial.copyFrom(mountain.ground);
            for (int i = 0; i < feet; i++) {
                trial.lower();
            }
            return mountain.people.gainOn(trial, folk);
        }

        int wishedFeet(int folk) {
            trial.copyFrom(mountain.ground);
            int wished = 0;
            int most = mountain.people.gainOn(trial, folk);
            for (int feet = 1; feet <= MOST_HOPED; feet++) {
                trial.lower();
                int gain = mountain.people.gainOn(trial, folk);
                if (gain > most) {
                    most = gain;
                    wished = feet;
                }
            }
            return wished;
        }

        private int namesOnTrial() {
            return mountain.people.namesOf(mountain.people.signersOf(mountain.people.gainersBy(trial, LOWERED), 0));
        }

        /** FEET of a COURSE; the trial ground is then as it ends. */
        int followLaw(int names) {
            trial.copyFrom(mountain.ground);
            for (int feet = 0; feet < MOST_COURSE; feet++) {
                if (namesOnTrial() < names || !trial.lower()) {
                    return feet;
                }
            }
            return MOST_COURSE;
        }

        /** A COURSE lowers in the same way by any law, so that its least names on the way are the answer. */
        int greatestLaw(int feet) {
            trial.copyFrom(mountain.ground);
            int least = MOST_LAW;
            for (int i = 0; i < feet; i++) {
                int names = namesOnTrial();
                if (names < 1 || !trial.lower()) {
                    return NONE;
                }
                least = Math.min(least, names);
            }
            return least;
        }

        /** FEET taken in MONTHS drawn, up to so many FEET; the trial ground is then as they end. */
        int drawMonths(int seed, int months, int most) {
            trial.copyFrom(mountain.ground);
            int folk = mountain.people.size;
            if (folk < 1) {
                return 0;
            }
            long x = seed;
            int feet = 0;
            int willing = mountain.people.gainersBy(trial, LOWERED);
            for (int month = 0; month < months && feet < most; month++) {
                x = FACTOR * x + ADDEND & MASK;
                int won = 1 << (int) (x / 65536 % folk);
                if (mountain.isEnough(willing | won, 0) && trial.lower()) {
                    feet++;
                    trial.change(trial.stayOf(mountain.heapCell), 1);
                    willing = mountain.people.gainersBy(trial, LOWERED);
                }
            }
            return feet;
        }
    }

    /** Old heights, by SHADE that was seen: rows of three, a CELL, an HOUR, and whether it was in SHADE. */
    private static final class Shadows {
        private final Mountain mountain;
        private final Slots slots;
        private final Ground trial;
        // For each k: how many rows of three it does not hold, and the latest of these.
        private final int[] misses = new int[MOST_OLD + 1];
        private final int[] missed = new int[MOST_OLD + 1];
        private final int[] shadedOnes = new int[2 * HOURS + 1];
        private int rows;
        private int possible;
        private int leftAtWorst;

        Shadows(Mountain measured, Slots seen, Ground lent) {
            mountain = measured;
            slots = seen;
            trial = lent;
        }

        /** Looks which k hold; 0, or why it can't be looked. */
        int load(int slot) {
            if (!slots.has(slot) || !mountain.isTold()) {
                return NO_SUCH;
            }
            if (!slots.isLaid(slot)) {
                return NOTHING_THERE;
            }
            if (!isSighting(slot)) {
                return NO_SUCH;
            }
            rows = slots.sizeOf(slot) / 3;
            possible = 0;
            trial.copyFrom(mountain.ground);
            int top = trial.topCell();
            for (int k = 0; k <= MOST_OLD; k++) {
                countMisses(slot, k);
                if (misses[k] == 0) {
                    possible |= 1 << k;
                }
                trial.change(top, 1);
            }
            return 0;
        }

        private boolean isSighting(int slot) {
            int numbers = slots.sizeOf(slot);
            if (numbers % 3 != 0) {
                return false;
            }
            for (int i = 0; i < numbers; i += 3) {
                long cell = slots.numberAt(slot, i);
                long hour = slots.numberAt(slot, i + 1);
                long shaded = slots.numberAt(slot, i + 2);
                boolean isCell = cell >= 0 && cell < mountain.ground.cells;
                boolean isHour = hour != 0 && hour >= -HOURS && hour <= HOURS;
                if (!isCell || !isHour || shaded < 0 || shaded > 1) {
                    return false;
                }
            }
            return true;
        }

        private void countMisses(int slot, int k) {
            if (k < 0 || k >= misses.length) {
                return;
            }
            misses[k] = 0;
            missed[k] = NONE;
            for (int r = 0; r < rows; r++) {
                int cell = (int) slots.numberAt(slot, 3 * r);
                int hour = (int) slots.numberAt(slot, 3 * r + 1);
                boolean seen = slots.numberAt(slot, 3 * r + 2) == 1;
                if (trial.isShaded(cell, hour) != seen) {
                    misses[k]++;
                    missed[k] = r;
                }
            }
        }

        /** The HOUR's number by which fewest k are left at worst, 0 if no HOUR tells k apart. */
        int hourToMeasure(int cell) {
            countShaded(cell);
            int all = Integer.bitCount(possible);
            int found = 0;
            leftAtWorst = all;
            for (int number = 1; number < shadedOnes.length; number++) {
                int worst = Math.max(shadedOnes[number], all - shadedOnes[number]);
                if (worst < leftAtWorst) {
                    leftAtWorst = worst;
                    found = number;
                }
            }
            return found;
        }

        /** For each HOUR's number: by how many of the k that hold the CELL is in SHADE. */
        private void countShaded(int cell) {
            for (int number = 0; number < shadedOnes.length; number++) {
                shadedOnes[number] = 0;
            }
            trial.copyFrom(mountain.ground);
            int top = trial.topCell();
            for (int k = 0; k <= MOST_OLD; k++) {
                if ((possible >> k & 1) == 1) {
                    addShaded(trial.shadedHours(cell, -1), 0);
                    addShaded(trial.shadedHours(cell, 1), HOURS);
                }
                trial.change(top, 1);
            }
        }

        private void addShaded(int hours, int ahead) {
            for (int number = ahead + 1; number <= ahead + hours; number++) {
                if (number >= 0 && number < shadedOnes.length) {
                    shadedOnes[number]++;
                }
            }
        }

        int doubtful() {
            if (possible != 0) {
                return rows;
            }
            int doubted = 0;
            for (int r = 0; r < rows; r++) {
                if (isOnlyMiss(r)) {
                    doubted++;
                }
            }
            return doubted;
        }

        private boolean isOnlyMiss(int r) {
            for (int k = 0; k <= MOST_OLD; k++) {
                if (misses[k] == 1 && missed[k] == r) {
                    return true;
                }
            }
            return false;
        }
    }

    /** SLOTS with rows of numbers, which are kept cut to their WIDTH, with their sign. */
    private static final class Slots {
        private final long[][] numbers = new long[SLOTS][MOST_NUMBERS];
        private final int[] widths = new int[SLOTS];
        // NONE: the SLOT has nothing, which is not a row without numbers.
        private final int[] sizes = {NONE, NONE, NONE, NONE};

        boolean has(int slot) {
            return slot >= 0 && slot < SLOTS;
        }

        int sizeOf(int slot) {
            return slot >= 0 && slot < SLOTS ? sizes[slot] : NONE;
        }

        boolean isLaid(int slot) {
            return sizeOf(slot) != NONE;
        }

        int widthOf(int slot) {
            return has(slot) ? widths[slot] : NONE;
        }

        int rows() {
            int laid = 0;
            for (int s = 0; s < SLOTS; s++) {
                if (isLaid(s)) {
                    laid++;
                }
            }
            return laid;
        }

        boolean spans(int slot, int from, int n) {
            return from >= 0 && n >= 0 && n <= sizeOf(slot) && from <= sizeOf(slot) - n;
        }

        long numberAt(int slot, int i) {
            return has(slot) && i >= 0 && i < MOST_NUMBERS ? numbers[slot][i] : 0;
        }

        void lay(int slot, int width, int n) {
            if (!has(slot) || n < 0 || n > MOST_NUMBERS) {
                return;
            }
            widths[slot] = width;
            sizes[slot] = n;
            for (int i = 0; i < MOST_NUMBERS; i++) {
                numbers[slot][i] = 0;
            }
        }

        void put(int slot, int i, long v) {
            if (has(slot) && i >= 0 && i < MOST_NUMBERS) {
                numbers[slot][i] = cut(v, widths[slot]);
            }
        }

        private static long cut(long v, int width) {
            switch (width) {
                case 0:
                    return (byte) v;
                case 1:
                    return (short) v;
                case 2:
                    return (int) v;
                default:
                    return v;
            }
        }

        /** System.arraycopy reads all before it writes, so that a row may be pasted over itself. */
        void move(int slot, int i, int to, int k, int n) {
            if (has(slot) && has(to) && spans(slot, i, n) && spans(to, k, n)) {
                System.arraycopy(numbers[slot], i, numbers[to], k, n);
            }
        }
    }
}
