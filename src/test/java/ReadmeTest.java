import java.io.IOException;
import java.nio.file.Files;
import java.nio.file.Path;
import java.util.ArrayList;
import java.util.List;
import java.util.Set;
import java.util.TreeSet;
import java.util.regex.Matcher;
import java.util.regex.Pattern;
import java.util.stream.Stream;

/** That README.md tells every call and how to run the tests, and that what it tells holds. */
public final class ReadmeTest {
    private static final Expect expect = new Expect();
    private static final Pattern EXCEPTION = Pattern.compile("\\w+Exception");

    public static void main(String[] args) throws IOException, ReflectiveOperationException {
        Path file = Path.of(args.length < 3 ? "README.md" : args[2]).toAbsolutePath();
        List<String> readme = Files.readAllLines(file);
        examples(readme);
        calls(readme);
        instructions(readme);
        tests(readme, file.getParent());
        expect.end();
    }

    private static void examples(List<String> readme) throws IOException, ReflectiveOperationException {
        ReadmeExamples examples = new ReadmeExamples(readme);
        int told = 0;
        for (Object row : examples.answers()) {
            String[] parts = (String[]) row;
            expect.answers(parts[1], parts[2], "the example's " + parts[0]);
            told++;
        }
        expect.answers(List.of(), examples.unclear, "lines of examples that tell no call or no answer");
        expect.yes(examples.size() >= 4 && told >= 100, "the examples were made: " + examples.size() + " with " + told + " answers");
        for (Face.Call call : Face.calls()) {
            expect.yes(examples.called.contains(call.name()), "an example for " + call.name());
        }
    }

    /** Each call has one row, with the exceptions that it is declared to throw and no others. */
    private static void calls(List<String> readme) {
        List<String> signatures = new ArrayList<>();
        for (Face.Call call : Face.calls()) {
            signatures.add(call.signature());
        }
        List<String> found = new ArrayList<>();
        for (String line : readme) {
            String[] cells = cells(line);
            if (cells.length == 2 && cells[0].matches("`\\w+ \\w+\\(.*\\)`")) {
                String signature = cells[0].replace("`", "");
                found.add(signature);
                int i = signatures.indexOf(signature);
                expect.yes(i >= 0, "the face has " + signature);
                if (i >= 0) {
                    expect.answers(new TreeSet<>(Face.calls().get(i).thrown()), exceptions(cells[1]), "what README.md says is thrown by " + signature);
                }
            }
        }
        expect.answers(signatures, found, "the calls that README.md tells");
    }

    private static Set<String> exceptions(String text) {
        Set<String> found = new TreeSet<>();
        Matcher m = EXCEPTION.matcher(text);
        while (m.find()) {
            found.add(m.group());
        }
        return found;
    }

    private static String[] cells(String line) {
        if (!line.startsWith("| ") || !line.endsWith(" |")) {
            return new String[0];
        }
        String[] cells = line.substring(1, line.length() - 1).split("\\|", -1);
        for (int i = 0; i < cells.length; i++) {
            cells[i] = cells[i].trim();
        }
        return cells;
    }

    private static void instructions(List<String> readme) {
        List<String> names = new ArrayList<>();
        for (String line : readme) {
            String[] cells = cells(line);
            if (cells.length == 6 && cells[0].matches("\\d+")) {
                expect.answers("" + names.size(), cells[0], "the number of " + cells[1]);
                operands(cells);
                names.add(cells[1]);
            }
        }
        expect.answers(Subject.OPS, names, "the instructions that README.md tells");
    }

    /** The operand is taken at both ends of what its letter stands for, and not beyond them. */
    private static void operands(String[] cells) {
        for (int i = 0; i < 3; i++) {
            String letter = cells[2 + i];
            if (letter.isEmpty() || letter.equals("v")) {
                taken(cells, i, Integer.MIN_VALUE, letter.isEmpty() ? 0 : Integer.MIN_VALUE);
                taken(cells, i, Integer.MAX_VALUE, letter.isEmpty() ? 0 : Integer.MAX_VALUE);
            } else {
                int most = most(cells[1], letter);
                taken(cells, i, least(letter), least(letter));
                taken(cells, i, most, most);
                expect.argument(() -> add(new TableMachine(), cells, letter, least(letter) - 1), cells[1] + " with " + letter + " too low");
                expect.argument(() -> add(new TableMachine(), cells, letter, most + 1), cells[1] + " with " + letter + " too high");
            }
        }
    }

    private static void taken(String[] cells, int operand, int given, int kept) {
        TableMachine x = new TableMachine();
        int[] all = {least(cells[2]), least(cells[3]), least(cells[4])};
        all[operand] = given;
        expect.is(0, x.add(Integer.parseInt(cells[0]), all[0], all[1], all[2]), cells[1] + " with " + given);
        expect.is(kept, x.code(0, operand + 1), "what is kept of " + given + " by " + cells[1]);
    }

    /** All other operands are the least ones. */
    private static int add(TableMachine x, String[] cells, String letter, int given) {
        int[] all = new int[3];
        for (int i = 0; i < 3; i++) {
            all[i] = cells[2 + i].equals(letter) ? given : least(cells[2 + i]);
        }
        return x.add(Integer.parseInt(cells[0]), all[0], all[1], all[2]);
    }

    private static int least(String letter) {
        return letter.equals("n") ? 1 : 0;
    }

    private static int most(String name, String letter) {
        switch (letter) {
            case "c": return 2;
            case "t": return 2;
            case "j": return 60;
            case "k": return 3;
            case "n": return 4;
            default: return name.equals("INSERT") ? 11 : 15;
        }
    }

    private static void tests(List<String> readme, Path project) throws IOException {
        Set<String> found = new TreeSet<>();
        for (String line : readme) {
            String[] cells = cells(line);
            if (cells.length == 2 && cells[0].matches("`\\w+Test`")) {
                found.add(cells[0].replace("`", ""));
            }
        }
        Set<String> there = new TreeSet<>();
        try (Stream<Path> files = Files.list(project.resolve("src/test/java"))) {
            for (Path file : files.toList()) {
                String name = file.getFileName().toString();
                if (name.endsWith("Test.java")) {
                    there.add(name.replace(".java", ""));
                }
            }
        }
        expect.answers(there, found, "the tests that README.md tells");
        expect.yes(readme.contains(".ci/run") && Files.isExecutable(project.resolve(".ci/run")), "how to run them");
    }
}
