import java.lang.reflect.Method;
import java.lang.reflect.Modifier;
import java.nio.charset.StandardCharsets;
import java.nio.file.Files;
import java.nio.file.Path;
import java.util.HashMap;
import java.util.Map;
import java.util.TreeSet;
import java.util.regex.Matcher;
import java.util.regex.Pattern;

/** README.md: its text is mounted as it says, its calls answer what stands behind them, and its table has every call. */
public final class ReadmeTest {
    private static int wrong = 0;

    private static void must(boolean holds, String what) {
        if (!holds) {
            wrong++;
            System.out.println("README.md: " + what);
        }
    }

    public static void main(String[] args) throws Exception {
        String readme = Files.readString(Path.of("README.md"), StandardCharsets.UTF_8);
        Map<String, Method> methods = new HashMap<>();
        for (Method m : FootLower.class.getDeclaredMethods()) {
            if (Modifier.isPublic(m.getModifiers())) {
                methods.put(m.getName(), m);
            }
        }
        int asked = example(readme, methods);
        must(asked > 20, "has calls with their answers, there are " + asked);
        table(readme, methods);
        System.out.println(wrong == 0 ? asked + " answers of README.md are as it says" : wrong + " things are not as README.md says");
        if (wrong != 0) {
            System.exit(1);
        }
    }

    private static int example(String readme, Map<String, Method> methods) throws Exception {
        Matcher text = Pattern.compile("```text\n(.*?)```", Pattern.DOTALL).matcher(readme);
        must(text.find(), "has a text");
        FootLower x = new FootLower();
        must(mount(x, text.group(1)) == text.group(1).split("\n").length, "its text is mounted, a LINE each");
        Matcher call = Pattern.compile("(?m)^x\\.(\\w+)\\((.*?)\\); *// (-?\\d+)").matcher(readme);
        int asked = 0;
        while (call.find()) {
            Method m = methods.get(call.group(1));
            must(m != null, "calls " + call.group(1) + ", which there is");
            if (m != null) {
                asked++;
                Object got = m.invoke(x, numbers(m, call.group(2)));
                must(got.equals(Integer.valueOf(call.group(3))), call.group() + ", and the answer is " + got);
            }
        }
        return asked;
    }

    private static Object[] numbers(Method m, String written) {
        String[] given = written.isEmpty() ? new String[0] : written.split(", ");
        Object[] numbers = new Object[given.length];
        for (int i = 0; i < given.length; i++) {
            boolean wide = m.getParameterTypes()[i] == long.class;
            numbers[i] = wide ? (Object) Long.valueOf(given[i].replace("L", "")) : (Object) Integer.valueOf(given[i]);
        }
        return numbers;
    }

    private static void table(String readme, Map<String, Method> methods) {
        TreeSet<String> listed = new TreeSet<>();
        Matcher row = Pattern.compile("(?m)^\\| (`[a-z` ]+`) \\|").matcher(readme);
        while (row.find()) {
            for (String name : row.group(1).replace("`", "").split(" ")) {
                must(listed.add(name), "names " + name + " once");
            }
        }
        must(listed.equals(new TreeSet<>(methods.keySet())), "its table has the calls of the face, there are " + listed);
    }

    /** As README.md writes it. */
    static int mount(FootLower x, String text) {
        for (int i = 0; i < text.length(); i += 20) {
            int[] five = new int[5];
            for (int k = 0; k < 20; k++) {
                int sign = i + k < text.length() ? text.charAt(i + k) : ' ';
                five[k / 4] = five[k / 4] << 8 | sign;
            }
            x.feed(five[0], five[1], five[2], five[3], five[4]);
        }
        x.end(text.length());
        return x.mount();
    }
}
