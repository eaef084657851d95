import java.lang.reflect.Array;
import java.lang.reflect.Constructor;
import java.lang.reflect.Field;
import java.lang.reflect.Method;
import java.lang.reflect.Modifier;
import java.nio.charset.StandardCharsets;
import java.nio.file.Files;
import java.nio.file.Path;
import java.util.ArrayList;
import java.util.Arrays;
import java.util.Collections;
import java.util.IdentityHashMap;
import java.util.List;
import java.util.Set;
import java.util.TreeSet;
import java.util.regex.Matcher;
import java.util.regex.Pattern;

/** The public face of the document, and the rules of LANGUAGE.md that can be read off the class and its source. */
public final class FaceTest {
    private static final String FACE = """
        feed(int,int,int,int,int) end(int) mount() fault(int) folk(int,int) height(int) shade(int,int) light(int) dark(int) snow() top()
        gain(int) hopes(int,int) wishes(int) gains() take() heap(int) slides(int) undo() anew() willing() signers(int) names(int) first()
        firsts() next(int) needed() play(int,int) moves(int,int) round(int,int) goes(int,int,int) two(int,int,int) flows(int) basin(int)
        cliffs() springs() sees(int) lookout() votes(int,int) elected() best() shape(int) shaped(int,int) spoil() course(int) ends(int)
        left(int,int) law(int) raisers() old(int) ask(int,int) leaves(int,int) doubts(int) stands(int) struck(int,int) drawn(int,int,int)
        luck(int,int,int) tell(int) likes(int,int,int) count(int) image(int) back(int) row(int,int,int) write(int,int,long)
        paste(int,int,int,int,int)""";

    private static final String[] FORBIDDEN = {"throw", "throws", "try", "catch", "finally", "synchronized", "assert", "import", "package",
        "protected", "volatile", "transient", "native", "Object", "Exception", "Thread", "Random", "nanoTime", "currentTimeMillis", "yield",
        "toString", "hashCode", "goto", "var", "addExact", "multiplyExact", "double", "float"};

    private static int wrong = 0;

    private static void must(boolean holds, String what) {
        if (!holds) {
            wrong++;
            System.out.println("not as it must be: " + what);
        }
    }

    public static void main(String[] args) throws Exception {
        face();
        nested();
        String source = Files.readString(Path.of("src/main/java/FootLower.java"), StandardCharsets.UTF_8);
        source(plain(source), source);
        neverThrows();
        room();
        System.out.println(wrong == 0 ? "the face and the source are as they must be" : wrong + " things are not as they must be");
        if (wrong != 0) {
            System.exit(1);
        }
    }

    private static String signature(Method m) {
        List<String> types = new ArrayList<>();
        for (Class<?> p : m.getParameterTypes()) {
            types.add(p.getName());
        }
        return m.getName() + "(" + String.join(",", types) + ")";
    }

    private static void face() throws Exception {
        Class<FootLower> c = FootLower.class;
        must(Modifier.isPublic(c.getModifiers()) && Modifier.isFinal(c.getModifiers()), "public final class");
        must(c.getPackageName().isEmpty(), "no package");
        must(c.getSuperclass() == Object.class && c.getInterfaces().length == 0, "no class above it");
        Set<String> due = new TreeSet<>(Arrays.asList(FACE.trim().split("\\s+")));
        must(due.size() == 65, "65 methods, there are " + due.size());
        Set<String> names = new TreeSet<>();
        due.forEach(s -> names.add(s.substring(0, s.indexOf('('))));
        Set<String> got = new TreeSet<>();
        for (Method m : c.getDeclaredMethods()) {
            if (Modifier.isPublic(m.getModifiers())) {
                got.add(signature(m));
                must(m.getReturnType() == int.class && !Modifier.isStatic(m.getModifiers()), m + " answers an int");
            } else {
                must(Modifier.isPrivate(m.getModifiers()), m + " is private");
                must(!names.contains(m.getName()), m + " bears no public name");
            }
        }
        must(got.equals(due), "the methods of the face, there are " + got);
        Constructor<?>[] made = c.getDeclaredConstructors();
        must(made.length == 1 && Modifier.isPublic(made[0].getModifiers()) && made[0].getParameterCount() == 0, "one public constructor");
        for (Field f : c.getDeclaredFields()) {
            boolean constant = f.getName().equals("NONE");
            must(constant == Modifier.isPublic(f.getModifiers()), f + " is public or private");
            must(constant || Modifier.isPrivate(f.getModifiers()), f + " is private");
        }
        Field none = c.getField("NONE");
        must(none.getType() == int.class && Modifier.isStatic(none.getModifiers()) && Modifier.isFinal(none.getModifiers()), "NONE is a constant");
        must(FootLower.NONE == -1, "NONE is -1");
        for (Class<?> n : c.getDeclaredClasses()) {
            for (Method m : n.getDeclaredMethods()) {
                must(!names.contains(m.getName()), m + " bears no public name");
            }
        }
    }

    private static void nested() {
        List<Class<?>> all = new ArrayList<>(List.of(FootLower.class));
        all.addAll(Arrays.asList(FootLower.class.getDeclaredClasses()));
        must(all.size() <= 12, "twelve classes at most");
        for (Class<?> c : all) {
            must(c == FootLower.class || Modifier.isStatic(c.getModifiers()), c + " is static");
            must(c == FootLower.class || !Modifier.isPublic(c.getModifiers()), c + " is not public");
            int fields = 0;
            for (Field f : c.getDeclaredFields()) {
                boolean fixed = Modifier.isStatic(f.getModifiers());
                fields += fixed ? 0 : 1;
                must(!fixed || Modifier.isFinal(f.getModifiers()), f + " is final");
                must(!fixed || Set.of("int", "long", "boolean", "char", "[I", "[J", "[C", "[B").contains(f.getType().getName())
                    || f.getType() == String.class, f + " is a constant of a type that may be");
            }
            must(fields <= 20, c + " has twenty fields at most");
            for (Method m : c.getDeclaredMethods()) {
                must(m.getParameterCount() <= 7, m + " takes seven at most");
                must(!m.isSynthetic(), m + " is written out");
            }
        }
    }

    /** The source without comments and without what texts hold; lines stay lines. */
    private static String plain(String source) {
        Matcher m = Pattern.compile("//[^\n]*|/\\*.*?\\*/|\"(?:[^\"\\\\]|\\\\.)*\"|'(?:[^'\\\\]|\\\\.)+'", Pattern.DOTALL).matcher(source);
        StringBuilder out = new StringBuilder();
        while (m.find()) {
            String lines = m.group().replaceAll("[^\n]", "");
            m.appendReplacement(out, m.group().startsWith("/") ? lines : m.group().charAt(0) + "_" + m.group().charAt(0));
        }
        return m.appendTail(out).toString();
    }

    private static void source(String plain, String whole) {
        for (String word : FORBIDDEN) {
            must(!Pattern.compile("\\b" + word + "\\b").matcher(plain).find(), "the source is without " + word);
        }
        for (String sign : new String[] {"->", "::", "@", "\"_\" +", "+ \"_\""}) {
            must(!plain.contains(sign), "the source is without " + sign);
        }
        must(whole.chars().allMatch(ch -> ch == '\n' || ch >= 32 && ch < 127), "the source is plain ASCII");
        Matcher library = Pattern.compile("\\b(System|Math|Integer|Long|Arrays|String|StringBuilder)\\.(\\w+)").matcher(plain);
        Set<String> allowed = Set.of("System.arraycopy", "Math.max", "Math.min", "Integer.bitCount");
        while (library.find()) {
            must(allowed.contains(library.group()), library.group() + " is of the library that may be used");
        }
        methods(plain);
    }

    /** Methods are short, and make no object: a run of calls makes what its objects make, and no more. */
    private static void methods(String plain) {
        String[] lines = plain.split("\n", -1);
        Pattern head = Pattern.compile("^( {4}| {8})(?:(?:public|private|static|final) )*[\\w\\[\\]<>]+(?: (\\w+))?\\((.*)\\) \\{$");
        int found = 0;
        for (int i = 0; i < lines.length; i++) {
            Matcher m = head.matcher(lines[i]);
            if (!m.matches() || lines[i].contains(" new ")) {
                continue;
            }
            found++;
            int last = i;
            while (last < lines.length && !lines[last].equals(m.group(1) + "}")) {
                must(m.group(2) == null || !lines[last].contains("new "), "no object is made in line " + (last + 1));
                last++;
            }
            must(last - i + 1 <= 60, "the method of line " + (i + 1) + " has sixty lines at most");
            i = last;
        }
        must(found > 150, "methods are found in the source, there are " + found);
    }

    /** Far numbers in every place of every call, in several states: an answer each time. */
    private static void neverThrows() throws Exception {
        int[] few = {Integer.MIN_VALUE, -1, 0, 2, Integer.MAX_VALUE};
        int[] many = {Integer.MIN_VALUE, Integer.MIN_VALUE + 1, -1000, -10, -9, -1, 0, 1, 2, 3, 4, 7, 8, 9, 10, 20, 21, 40, 41, 60, 61, 255, 256,
            999, 1000, 2000000000, 2000000001, Integer.MAX_VALUE - 1, Integer.MAX_VALUE};
        for (String text : new String[] {"", "mount 3 9 4 snow 4 rest 2 names 20 first;", "mount 0 0 0 snow 0 rest 1 names 1 last;"
            + "folk at 0 names 9 sun 9 snow 9 view 9;".repeat(8), "mount 40 0 40 0 40 0 40 0 40 40 snow 9 rest 1 names 9 last;"
            + "folk at 1 names 9 sun 9 snow 0 view 0;" + "folk at 9 names 9 sun 9 snow 9 view 9 talk 1 with 0;".repeat(7)}) {
            FootLower x = new FootLower();
            mount(x, text);
            for (Method m : FootLower.class.getDeclaredMethods()) {
                if (Modifier.isPublic(m.getModifiers()) && !Set.of("mount", "back", "image", "end").contains(m.getName())) {
                    rough(x, m, new Object[m.getParameterCount()], 0, m.getParameterCount() > 2 ? few : many);
                }
            }
            rough(x, FootLower.class.getMethod("image", int.class), new Object[1], 0, many);
            rough(x, FootLower.class.getMethod("back", int.class), new Object[1], 0, many);
            rough(x, FootLower.class.getMethod("end", int.class), new Object[1], 0, many);
            must(x.mount() <= 0, "mount() answers");
        }
    }

    /** A run's room: calls make nothing, so that 512 new objects are the most that a run could make. */
    private static void room() throws Exception {
        Set<Object> seen = Collections.newSetFromMap(new IdentityHashMap<>());
        long elements = weigh(new FootLower(), seen);
        must(seen.size() * 512L <= 600000, "512 objects have " + seen.size() * 512L + " objects and arrays");
        must(elements * 512 <= 7300000, "512 objects have " + elements * 512 + " fields and elements");
    }

    private static long weigh(Object held, Set<Object> seen) throws Exception {
        if (held == null || !seen.add(held)) {
            return 0;
        }
        long elements = 0;
        if (held.getClass().isArray()) {
            elements = Array.getLength(held);
            for (int i = 0; i < Array.getLength(held) && !held.getClass().getComponentType().isPrimitive(); i++) {
                elements += weigh(Array.get(held, i), seen);
            }
            return elements;
        }
        for (Field f : held.getClass().getDeclaredFields()) {
            if (!Modifier.isStatic(f.getModifiers())) {
                f.setAccessible(true);
                elements += 1 + (f.getType().isPrimitive() ? 0 : weigh(f.get(held), seen));
            }
        }
        return elements;
    }

    private static void rough(FootLower x, Method m, Object[] given, int at, int[] numbers) {
        if (at < given.length) {
            for (int n : numbers) {
                given[at] = m.getParameterTypes()[at] == long.class ? (Object) (long) n : (Object) n;
                rough(x, m, given, at + 1, numbers);
            }
            return;
        }
        try {
            m.invoke(x, given);
        } catch (ReflectiveOperationException thrown) {
            must(false, m.getName() + Arrays.toString(given) + " threw " + thrown.getCause());
        }
    }

    private static void mount(FootLower x, String text) {
        byte[] bytes = Arrays.copyOf(text.getBytes(StandardCharsets.US_ASCII), (text.length() + 19) / 20 * 20);
        for (int i = 0; i < bytes.length; i += 20) {
            int[] five = new int[5];
            for (int k = 0; k < 20; k++) {
                five[k / 4] = five[k / 4] << 8 | bytes[i + k];
            }
            x.feed(five[0], five[1], five[2], five[3], five[4]);
        }
        x.end(text.length());
        must(x.mount() >= 0, "mount() of " + text);
    }
}
