import java.lang.reflect.InvocationTargetException;
import java.lang.reflect.Method;
import java.lang.reflect.Modifier;
import java.nio.file.Files;
import java.nio.file.Path;
import java.util.ArrayList;
import java.util.HashSet;
import java.util.List;
import java.util.Set;
import java.util.regex.Matcher;
import java.util.regex.Pattern;

/** Runs the example of README.md, so that what it tells cannot part from what the program does. */
public final class ReadmeTests {
    private static final Pattern CALL =
            Pattern.compile("shop\\.(\\w+)\\(([-0-9, ]*)\\);\\s*// (throws \\w+|-?[0-9.]+): .+");
    private static int failures = 0;

    public static void main(String[] args) throws Exception {
        List<String> example = exampleOf(Files.readAllLines(Path.of("README.md")));
        CuckooShop shop = new CuckooShop();
        Set<String> called = new HashSet<>();
        check("the example makes a shop first",
                !example.isEmpty() && example.get(0).equals("CuckooShop shop = new CuckooShop();"));
        for (int i = 1; i < example.size(); i++) {
            Matcher line = CALL.matcher(example.get(i));
            if (line.matches()) {
                called.add(line.group(1));
                String answer = answerOf(shop, line.group(1), line.group(2));
                check(example.get(i) + " answers " + answer, answer.equals(line.group(3)));
            } else {
                check("not a call with its answer: " + example.get(i), false);
            }
        }
        for (Method method : CuckooShop.class.getDeclaredMethods()) {
            if (Modifier.isPublic(method.getModifiers())) {
                check("the example calls " + method.getName(), called.contains(method.getName()));
            }
        }
        if (failures > 0) {
            System.exit(1);
        }
        System.out.println("ReadmeTests: the example answers what README.md says");
    }

    private static List<String> exampleOf(List<String> readme) {
        List<String> example = new ArrayList<>();
        int start = readme.indexOf("```java");
        for (int i = start + 1; start >= 0 && i < readme.size() && !readme.get(i).equals("```"); i++) {
            example.add(readme.get(i));
        }
        return example;
    }

    private static String answerOf(CuckooShop shop, String name, String text) throws Exception {
        String[] words = text.isEmpty() ? new String[0] : text.split(", ");
        Class<?>[] types = new Class<?>[words.length];
        Object[] values = new Object[words.length];
        for (int i = 0; i < words.length; i++) {
            types[i] = int.class;
            values[i] = Integer.valueOf(words[i]);
        }
        try {
            return String.valueOf(CuckooShop.class.getMethod(name, types).invoke(shop, values));
        } catch (InvocationTargetException thrown) {
            return "throws " + thrown.getCause().getClass().getSimpleName();
        }
    }

    private static void check(String what, boolean holds) {
        if (!holds) {
            failures++;
            System.out.println("README.md: " + what);
        }
    }
}
