import java.io.IOException;
import java.nio.file.Files;
import java.nio.file.Path;
import java.util.ArrayList;
import java.util.LinkedHashMap;
import java.util.List;
import java.util.Map;

/**
 * The document, to see that each of its sentences has a test: what a test quotes is marked, and what is
 * left unmarked in what it is, the terms and the promises can be told.
 */
final class Document {
    private final boolean there;
    private final Map<String, String> texts = new LinkedHashMap<>();
    private final Map<String, boolean[]> marks = new LinkedHashMap<>();

    Document(Path path) throws IOException {
        there = Files.exists(path);
        if (there) {
            read(path);
        } else {
            // The runs of calls are as good without it.
            System.out.println(path + " is not there: the sentences are not compared with it");
        }
    }

    private void read(Path path) throws IOException {
        String section = "";
        StringBuilder text = new StringBuilder();
        for (String line : Files.readAllLines(path)) {
            if (line.startsWith("## ")) {
                keep(section, text.toString());
                section = line.substring(3).replaceAll(":.*", "");
                text.setLength(0);
            } else if (!line.startsWith("```")) {
                text.append(line).append(' ');
            }
        }
        keep(section, text.toString());
    }

    private void keep(String section, String text) {
        boolean promise = section.startsWith("Promise ");
        if (promise || section.equals("What it is") || section.equals("Terms")) {
            // The signature of a promise is no sentence; the face has a test of its own.
            String sentences = promise ? text.replaceFirst("`[^`]*`:", "") : text;
            texts.put(section, plain(sentences));
            marks.put(section, new boolean[plain(sentences).length()]);
        }
    }

    private static String plain(String text) {
        return text.replaceAll("\\s+", " ").trim();
    }

    /** How often the section has the quote; the first one is marked. */
    int mark(String section, String quote) {
        if (!there) {
            return 1;
        }
        String text = texts.getOrDefault(section, "");
        int times = 0;
        for (int i = text.indexOf(quote); i >= 0; i = text.indexOf(quote, i + 1)) {
            if (times == 0) {
                java.util.Arrays.fill(marks.get(section), i, i + quote.length(), true);
            }
            times++;
        }
        return times;
    }

    List<String> unmarked() {
        List<String> left = new ArrayList<>();
        for (String section : texts.keySet()) {
            StringBuilder piece = new StringBuilder();
            for (int i = 0; i < texts.get(section).length(); i++) {
                if (!marks.get(section)[i]) {
                    piece.append(texts.get(section).charAt(i));
                } else if (piece.length() > 0) {
                    add(left, section, piece);
                }
            }
            add(left, section, piece);
        }
        return left;
    }

    private static void add(List<String> left, String section, StringBuilder piece) {
        if (piece.chars().anyMatch(Character::isLetterOrDigit)) {
            left.add(section + ": " + piece.toString().trim());
        }
        piece.setLength(0);
    }
}
