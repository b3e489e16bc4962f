import java.io.IOException;
import java.nio.file.Files;
import java.nio.file.Path;
import java.util.ArrayList;
import java.util.List;
import java.util.regex.Matcher;
import java.util.regex.Pattern;

/** README.md's examples stand here line by line, and answer what README.md says behind them. */
public final class ReadmeTest {
    private static final Due DUE = new Due();
    private static final List<String> EXAMPLES = new ArrayList<>();

    public static void main(String[] args) throws IOException {
        readExamples();
        isHere();
        example();
        DUE.end();
    }

    private static void readExamples() throws IOException {
        boolean inside = false;
        for (String line : Files.readAllLines(Path.of("README.md"))) {
            if (line.startsWith("```")) {
                inside = line.equals("```java");
            } else if (inside && !line.isBlank()) {
                EXAMPLES.add(line.trim());
            }
        }
    }

    private static void isHere() throws IOException {
        List<String> here = new ArrayList<>();
        for (String line : Files.readAllLines(Path.of("src/test/java/ReadmeTest.java"))) {
            here.add(line.trim().replaceFirst("^private ", ""));
        }
        DUE.is("there are examples", EXAMPLES.size() > 20, true);
        for (String line : EXAMPLES) {
            DUE.is("README.md's line: " + line, here.contains(line.replaceAll(" *//.*", "")), true);
        }
    }

    /** The number that README.md tells behind the line that makes a name. */
    private static void told(String name, int got) {
        Pattern pattern = Pattern.compile("int " + name + " = .*// (-?\\d+)(?!\\d).*");
        int found = 0;
        for (String line : EXAMPLES) {
            Matcher matcher = pattern.matcher(line);
            if (matcher.matches()) {
                found++;
                DUE.is("README.md's " + name, got, Integer.parseInt(matcher.group(1)));
            }
        }
        DUE.is("README.md tells " + name, found, 1);
    }

    private static void example() {
        WalkingTown town = new WalkingTown();
        town.street(0, 1, 20);
        int home = town.stop(0);
        int mill = town.stop(1);
        int car = town.wheel(0, home, 4, 30);
        int early = town.trip(car, home, mill, 110, 0, 30);
        town.give(500);

        town.feed(100 << 16 | 120, 30 << 16 | 5, 100 << 16, 0, 0);
        town.end(12);
        int p = town.person(0, 1, 400);

        putText(town, "gas 5 if rain<4; dock 25;");
        int lines = town.bylaw(0);
        told("lines", lines);
        int gas = town.told(early, 5, 0, 0);
        told("gas", gas);
        int line = town.why();
        told("line", line);

        int without = town.tried(car);
        told("without", without);
        int inTime = town.morning();
        told("inTime", inTime);
        int came = town.of(p, 0);
        told("came", came);
        int riders = town.rode(early);
        told("riders", riders);
        int fund = town.count(6);
        told("fund", fund);

        town.feed(car << 24, 0, 0, 0, 0);
        town.end(1);
        int seated = town.seated(10);
        told("seated", seated);
        int at = town.seatedAt(0);
        told("at", at);
    }

    private static void putText(WalkingTown town, String text) {
        town.end(0);
        for (int i = 0; i < text.length(); i += 20) {
            int[] five = new int[5];
            for (int k = 0; k < 20; k++) {
                int sign = i + k < text.length() ? text.charAt(i + k) : 0;
                five[k / 4] = five[k / 4] << 8 | sign;
            }
            town.feed(five[0], five[1], five[2], five[3], five[4]);
        }
        town.end(text.length());
    }
}
