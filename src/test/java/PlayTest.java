import java.nio.charset.StandardCharsets;
import java.util.Arrays;
import java.util.HashMap;
import java.util.Map;
import java.util.Random;

/**
 * PLAY (promises 29 and 30) at its boundary: the most names that the one who wins FOLK can be sure of are worked
 * out by looking at every move; by a law of so many names it must be ENOUGH, by one more it must not.
 */
public final class PlayTest {
    private static final int TEXTS = 60;
    private static final int MOST_CALLS = 512;

    private static int wrong = 0;
    private static int asked = 0;

    /** A mountain of FOLK, whoever is WILLING among them, and the names that PLAY can come to. */
    private static final class Folk {
        final int size;
        final int[] names;
        final int[] talk;
        final int[] friends;
        final boolean[] willing;
        final Map<Integer, Integer> sure = new HashMap<>();
        int each;
        int starter;

        Folk(Random random) {
            size = random.nextInt(4) == 0 ? 1 + random.nextInt(8) : 7 + random.nextInt(2);
            names = new int[size];
            talk = new int[size];
            friends = new int[size];
            willing = new boolean[size];
            boolean talkative = random.nextBoolean();
            for (int f = 0; f < size; f++) {
                names[f] = 1 + random.nextInt(99);
                willing[f] = random.nextInt(4) == 0;
                if (f > 0 && talkative && random.nextInt(3) > 0) {
                    talk[f] = 1 + random.nextInt(3);
                    for (int i = 0; i < 3; i++) {
                        int other = random.nextInt(f);
                        friends[f] |= 1 << other;
                        friends[other] |= 1 << f;
                    }
                }
            }
        }

        String text() {
            StringBuilder out = new StringBuilder("mount 0 3 0 snow 40 rest 1 names 1 first;");
            for (int f = 0; f < size; f++) {
                out.append("folk at 0 names ").append(names[f]).append(" sun ").append(willing[f] ? 1 : 0).append(" snow 0 view 0");
                if (talk[f] > 0) {
                    out.append(" talk ").append(talk[f]).append(" with");
                    for (int other = 0; other < f; other++) {
                        out.append((friends[f] >> other & 1) == 1 ? " " + other : "");
                    }
                }
                out.append(";");
            }
            return out.toString();
        }

        int namesBy(int won, int barred) {
            int signing = 0;
            for (boolean more = true; more;) {
                more = false;
                for (int f = 0; f < size; f++) {
                    boolean signs = willing[f] || (won >> f & 1) == 1 || talk[f] > 0 && Integer.bitCount(friends[f] & signing) >= talk[f];
                    if (signs && (barred >> f & 1) == 0 && (signing >> f & 1) == 0) {
                        signing |= 1 << f;
                        more = true;
                    }
                }
            }
            int sum = 0;
            for (int f = 0; f < size; f++) {
                sum += (signing >> f & 1) * names[f];
            }
            return sum;
        }

        void begin(int n, int who) {
            each = n;
            starter = who;
            sure.clear();
        }

        boolean winsNow(int won, int barred) {
            return (Integer.bitCount(won | barred) + starter) % 2 == 0;
        }

        /** The most names that the one who wins can be sure of from here on. */
        int sureNames(int won, int barred) {
            if (Integer.bitCount(won | barred) == Math.min(size, 2 * each)) {
                return namesBy(won, barred);
            }
            int key = won << 8 | barred;
            Integer known = sure.get(key);
            if (known != null) {
                return known;
            }
            boolean wins = winsNow(won, barred);
            int best = wins ? -1 : 10000;
            for (int f = 0; f < size; f++) {
                if (((won | barred) >> f & 1) == 0) {
                    int names = sureBehind(f, won, barred);
                    best = wins ? Math.max(best, names) : Math.min(best, names);
                }
            }
            sure.put(key, best);
            return best;
        }

        int sureBehind(int f, int won, int barred) {
            return winsNow(won, barred) ? sureNames(won | 1 << f, barred) : sureNames(won, barred | 1 << f);
        }

        int firstMove(int law) {
            if (each == 0) {
                return -1;
            }
            for (int f = 0; f < size; f++) {
                if (sureBehind(f, 0, 0) >= law == (starter == 0)) {
                    return f;
                }
            }
            return 0;
        }
    }

    private static FootLower mount(String text) {
        FootLower x = new FootLower();
        byte[] bytes = text.getBytes(StandardCharsets.US_ASCII);
        byte[] padded = Arrays.copyOf(bytes, (bytes.length + 19) / 20 * 20);
        for (int i = 0; i < padded.length; i += 20) {
            int[] five = new int[5];
            for (int k = 0; k < 20; k++) {
                five[k / 4] = five[k / 4] << 8 | padded[i + k];
            }
            x.feed(five[0], five[1], five[2], five[3], five[4]);
        }
        x.end(bytes.length);
        due("mount() of " + text, x.mount() > 0 ? 1 : 0, 1);
        return x;
    }

    private static void due(String call, int got, int want) {
        asked++;
        if (got != want) {
            wrong++;
            System.out.println(call + " answered " + got + ", due is " + want);
        }
    }

    public static void main(String[] args) {
        Random random = new Random(7);
        for (int i = 0; i < TEXTS && wrong < 10; i++) {
            Folk folk = new Folk(random);
            FootLower x = mount(folk.text());
            int calls = 60;
            for (int n = 0; n <= 4; n++) {
                for (int who = 0; who < 2; who++) {
                    folk.begin(n, who);
                    int sure = folk.sureNames(0, 0);
                    for (int law : new int[] {1, sure - 1, sure, sure + 1, sure + 9, 999}) {
                        if (law >= 1 && law <= 999) {
                            x.tell(law);
                            String by = "(" + n + ", " + who + ") by a law of " + law + " names, " + folk.text();
                            due("play" + by, x.play(n, who), sure >= law ? 1 : 0);
                            due("moves" + by, x.moves(n, who), folk.firstMove(law));
                            calls += 3;
                        }
                    }
                }
            }
            due("calls on one object", calls <= MOST_CALLS ? 1 : 0, 1);
        }
        System.out.println(wrong == 0 ? asked + " answers are as due" : wrong + " answers are not as due");
        if (wrong != 0) {
            System.exit(1);
        }
    }
}
