import java.io.IOException;
import java.nio.file.Files;
import java.nio.file.Path;
import java.util.Set;
import java.util.TreeSet;
import java.lang.reflect.Method;
import java.lang.reflect.Modifier;

/** README.md: its example runs and gives what is said there, and every method of the face is named. */
public final class ReadmeTest {
    public static void main(String[] args) throws IOException {
        String readme = Files.readString(Path.of("README.md"));
        String source = Files.readString(Path.of("src/test/java/ReadmeTest.java"));
        Hall.due("the example", between(readme, "```java\n", "```"), exampleOf(source));
        answers(example());
        names(readme);
        Hall.end("ReadmeTest");
    }

    // The lines between the marks below stand in README.md, too.
    private static Blueline example() {
        // example begins
        Blueline hall = new Blueline();
        for (int club = 0; club < 2; club++) {
            hall.club();
            for (int i = 0; i < 6; i++) {
                int player = hall.player(i == 0, 100);
                hall.sign(player, club);
            }
        }
        hall.match(0, 1, 8 + 16);
        for (int player = 0; player < 12; player++) {
            hall.dress(player / 6, player);
        }
        hall.begin();
        hall.faceOff(1);
        hall.touch(1);
        hall.carry(3);
        hall.goal(1, 2, -1);
        hall.penalty(8, 'm', 8);
        for (int period = 1; period <= 3; period++) {
            hall.faceOff(1);
            hall.run(12000);
        }
        hall.close();
        // example ends
        return hall;
    }

    private static void answers(Blueline hall) {
        Hall.due("points", hall.points(0), 3);
        Hall.due("points of away", hall.points(1), 0);
        Hall.due("first of the table", hall.ranked(0), 0);
        Hall.due("goals", hall.tally(1, 'g'), 1);
        Hall.due("tenths", hall.tally(8, 'p'), 1200);
        Hall.due("phase", hall.phase(), '-');
    }

    private static String exampleOf(String source) {
        String lines = between(source, "        // example begins\n", "        // example ends");
        return lines.substring(8).replace("\n        ", "\n");
    }

    private static String between(String text, String begin, String end) {
        int from = text.indexOf(begin) + begin.length();
        return text.substring(from, text.indexOf(end, from));
    }

    private static void names(String readme) {
        Set<String> missing = new TreeSet<>();
        for (Method method : Blueline.class.getDeclaredMethods()) {
            String name = method.getName();
            boolean isNamed = readme.contains("`" + name + "`") || readme.contains("`" + name + "(");
            if (Modifier.isPublic(method.getModifiers()) && !isNamed) {
                missing.add(name);
            }
        }
        Hall.due("methods that README.md leaves out", missing, new TreeSet<String>());
    }
}
