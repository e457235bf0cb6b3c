import java.io.IOException;
import java.lang.reflect.Method;
import java.lang.reflect.Modifier;
import java.nio.file.Files;
import java.nio.file.Path;
import java.util.List;
import java.util.Set;
import java.util.TreeSet;
import java.util.regex.Matcher;
import java.util.regex.Pattern;
import java.util.stream.Stream;

/** What README.md says of the class and of its tests: nobody else would see that it no longer holds. */
public final class ReadmeTest {
    public static void main(String[] args) throws IOException {
        String readme = Files.readString(Path.of("README.md"));
        theExample(readme);
        theTextOfItems(readme);
        everyCallIsNamed(readme);
        everyTestIsNamed(readme);
        Check.end();
    }

    private static void theExample(String readme) {
        SecretDinner house = new SecretDinner();
        line(readme, "house.begin(3, 7);", "three guests, s = 7: the first hand has " + house.begin(3, 7) + " cards");
        line(readme, "int held = house.ask(0, 0b1111, false);", house.ask(0, 0b1111, false) + ":");
        line(readme, "boolean has = house.prove(1, 4);", house.prove(1, 4) + ":");
        line(readme, "int left = house.deals();", house.deals() + ":");
        line(readme, "int cards = house.bestCards(2);", house.bestCards(2) + ":");
        line(readme, "int culprit = house.accuse(house.likeliest());", house.accuse(house.likeliest()) + ":");
        line(readme, "int score = house.value(6);", house.value(6) + ":");
        line(readme, "house.undo();", house.undo() + " states are still saved");
        Check.due("the evening goes on again", house.value(1), 1);
    }

    /** A line of the example must have this call, and a comment that begins so. */
    private static void line(String readme, String call, String comment) {
        Pattern line = Pattern.compile("(?m)^" + Pattern.quote(call) + " +// " + Pattern.quote(comment));
        Check.due("README.md has \"" + call + " // " + comment + "\"", line.matcher(readme).find(), true);
    }

    private static void theTextOfItems(String readme) {
        SecretDinner house = Houses.evening(3, 7);
        List<String> items = List.of("a0:0123;", "l1:7;", "p2:5;", "g2;");
        for (String item : items) {
            Check.due("README.md has " + item, readme.contains("`" + item + "`"), true);
        }
        Houses.write(house, String.join("", items));
        Check.due("play", house.play(), items.size());
        Check.due("questions", house.value(2), 2);
        Check.due("proofs", house.value(3), 1);
        Check.due("guest 2 has left", house.guest(2, 1), 0);
    }

    private static void everyCallIsNamed(String readme) {
        for (Method method : SecretDinner.class.getDeclaredMethods()) {
            if (Modifier.isPublic(method.getModifiers())) {
                String name = method.getName();
                Check.due("README.md names " + name, readme.contains("`" + name + "`"), true);
            }
        }
    }

    private static void everyTestIsNamed(String readme) throws IOException {
        Set<String> named = new TreeSet<>();
        Matcher row = Pattern.compile("(?m)^\\| `(\\w+Test)` \\|").matcher(readme);
        while (row.find()) {
            named.add(row.group(1) + ".java");
        }
        Set<String> there = new TreeSet<>();
        try (Stream<Path> files = Files.list(Path.of("src/test/java"))) {
            for (Path file : files.toList()) {
                if (file.toString().endsWith("Test.java")) {
                    there.add(file.getFileName().toString());
                }
            }
        }
        Check.due("the tests that README.md names", named.toString(), there.toString());
    }
}
