import java.io.IOException;
import java.nio.file.DirectoryStream;
import java.nio.file.Files;
import java.nio.file.Path;
import java.util.regex.Matcher;
import java.util.regex.Pattern;

/** Every sentence of the terms and of the promises is quoted by the test that holds the class to it. */
public final class DocTest {
    private static final String TEXT = "\"(?:[^\"\\\\]|\\\\.)*\"";
    private static final Pattern QUOTE =
        Pattern.compile("due\\.of\\((?:(\\d+),\\s*)?(" + TEXT + "(?:\\s*\\+\\s*" + TEXT + ")*)\\)");
    // Names that stand ahead of what is said of them, and say nothing themselves.
    private static final String[] HEADINGS = {"THIEF:"};

    private static final Doc doc = new Doc();
    private static final Due due = new Due();

    public static void main(String[] args) throws IOException {
        String[] left = new String[Doc.PROMISES + 1];
        for (int section = 0; section < left.length; section++) {
            left[section] = doc.section(section);
            due.no("an empty section " + section, left[section].isBlank());
        }
        try (DirectoryStream<Path> tests =
            Files.newDirectoryStream(Path.of("src/test/java"), "*Test.java")) {
            for (Path test : tests) {
                takeOut(left, Files.readString(test));
            }
        }
        for (String heading : HEADINGS) {
            left[Doc.TERMS] = left[Doc.TERMS].replace(heading, "");
        }
        for (int section = 0; section < left.length; section++) {
            due.is("letters that no test quotes of section " + section + " (" + left[section].strip()
                + ")", left[section].replaceAll("[^A-Za-z0-9]", "").length(), 0);
        }
        due.close("DocTest");
    }

    private static void takeOut(String[] left, String test) {
        Matcher quote = QUOTE.matcher(test);
        while (quote.find()) {
            int section = quote.group(1) == null ? Doc.TERMS : Integer.parseInt(quote.group(1));
            String words = quote.group(2).replaceAll("\"\\s*\\+\\s*\"", "");
            left[section] = left[section].replace(words.substring(1, words.length() - 1), "\n");
        }
    }
}
