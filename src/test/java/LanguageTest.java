import java.nio.file.Files;
import java.nio.file.Path;
import java.util.regex.Matcher;
import java.util.regex.Pattern;

/** Rules of LANGUAGE.md that can be seen in the text of the program. */
public final class LanguageTest {
    private static final String[] NOT_THERE = {
        "\\bthrow\\b", "\\bthrows\\b", "\\btry\\b", "\\bcatch\\b", "\\bsynchronized\\b", "\\bassert\\b", "->", "::",
        "\\bstatic\\s*\\{", "\\bhashCode\\b", "\\btoString\\b", "Exact\\b", "\\bpackage\\b", "\\bObject\\b",
        "\\bRandom\\b", "\\bThread\\b", "\\bMath\\.(?!abs|min|max)", "\\bSystem\\.(?!arraycopy)",
        "\\bArrays\\.(?!fill|copyOf)", "\\bwhile\\s*\\(true", "for\\s*\\(;;", "\\bString\\b", "\\bvar\\b",
        "\\bimport (?!java\\.util\\.Arrays;)", "\\bprotected\\b", "\\bdouble\\b", "\\bfloat\\b"};
    private static final Pattern METHOD =
        Pattern.compile("(?m)^( +)(?:(?:public|private|static|final) )*(?:\\w+(?:\\[\\])? )?(\\w+)\\(([^)]*)\\) \\{$");

    public static void main(String[] args) throws Exception {
        Due due = new Due();
        due.about("the language");
        String whole = Files.readString(Path.of("src/main/java/RainCans.java"));
        String text = whole.replaceAll("(?s)/\\*.*?\\*/", "").replaceAll("//[^\\n]*", "");
        for (String pattern : NOT_THERE) {
            Matcher m = Pattern.compile(pattern).matcher(text);
            boolean found = m.find();
            due.holds(pattern + " stands in the program", !found);
        }
        for (char sign : whole.toCharArray()) {
            due.holds("a sign beyond 127: " + (int) sign, sign < 128);
        }
        int methods = 0;
        Matcher m = METHOD.matcher(text);
        while (m.find()) {
            methods++;
            int end = text.indexOf("\n" + m.group(1) + "}", m.end());
            due.holds(m.group(2) + " has no end", end > 0);
            int lines = text.substring(m.start(), Math.max(end, m.start())).split("\n").length + 1;
            due.holds(m.group(2) + " has " + lines + " lines", lines <= 60);
            due.holds(m.group(2) + " has too many parameters", m.group(3).split(",").length <= 7);
        }
        due.holds("the methods are found: " + methods, methods > 60);
        due.end();
    }
}
