import java.io.IOException;
import java.nio.charset.StandardCharsets;
import java.nio.file.Files;
import java.nio.file.Path;
import java.util.regex.Matcher;
import java.util.regex.Pattern;

/** Of LANGUAGE.md what can be seen by the words of the source: rules 2, 3, 5, 6, 9, 11 and 13, and the library of rule 4. */
public final class LanguageTest {
    private static final String[] BARRED = {
        "\\bimport\\b", "\\bpackage\\b", "\\bthrow\\b", "\\bthrows\\b", "\\btry\\b", "\\bcatch\\b", "\\bfinally\\b",
        "\\bsynchronized\\b", "\\bassert\\b", "\\bnative\\b", "\\btransient\\b", "\\bvolatile\\b", "->", "::",
        "\\bprotected\\b", "static\\s*\\{", "\\bequals\\s*\\(", "\\bhashCode\\b", "\\btoString\\b", "@",
        "\\bfloat\\b", "\\bdouble\\b", "Exact\\s*\\(", "\\bjava\\.", "\\bObject\\b", "\\bRandom\\b", "\\bThread\\b",
        "\\bcurrentTimeMillis\\b", "\\bnanoTime\\b", "\\bgetenv\\b", "\\bout\\b", "\\bvar\\b", "\\binstanceof\\b",
        "\\bnull\\b", "while\\s*\\(\\s*true", "for\\s*\\(\\s*;"};
    private static final String LIBRARY =
        "System\\.arraycopy|Math\\.(max|min|abs)|Integer\\.bitCount";

    private static String withoutCommentsAndTexts(String source) {
        String bare = Pattern.compile("/\\*.*?\\*/", Pattern.DOTALL).matcher(source).replaceAll(" ");
        bare = bare.replaceAll("//[^\n]*", " ");
        return bare.replaceAll("\"[^\"\n]*\"", "\"\"");
    }

    private static void library(String bare) {
        Matcher m = Pattern.compile("\\b(System|Math|Integer|Long|Arrays|String|List)\\.\\w+").matcher(bare);
        while (m.find()) {
            if (!m.group().matches(LIBRARY)) {
                Due.fault("the library's " + m.group());
            }
        }
    }

    private static void methodLengths(String source) {
        String[] lines = source.split("\n");
        int from = -1;
        String indent = "";
        for (int i = 0; i < lines.length; i++) {
            Matcher m = Pattern.compile("^( {4}| {8})\\S[^=;]*\\) \\{$").matcher(lines[i]);
            if (m.find() && from < 0) {
                from = i;
                indent = m.group(1);
            } else if (from >= 0 && lines[i].equals(indent + "}")) {
                if (i - from > 60) {
                    Due.fault("the method of line " + (from + 1) + " has " + (i - from) + " lines");
                }
                from = -1;
            }
        }
    }

    /** Rule 9: a loop steps, in its head or between its own braces, something on which its end depends. */
    private static void loopEnds(String bare) {
        String[] lines = bare.split("\n");
        for (int i = 0; i < lines.length; i++) {
            Matcher head = Pattern.compile("^( *)(for|while) \\((.*)\\) \\{$").matcher(lines[i]);
            if (!head.find()) {
                continue;
            }
            boolean isFor = head.group(2).equals("for");
            String[] parts = head.group(3).split(";");
            StringBuilder steps = new StringBuilder(isFor ? parts[2] : "");
            for (int k = i + 1; !isFor && k < lines.length && !lines[k].equals(head.group(1) + "}"); k++) {
                steps.append(lines[k]).append('\n');
            }
            if (!isStepped(isFor ? parts[1] : head.group(3), steps.toString())) {
                Due.fault("the end of the loop of line " + (i + 1) + " can't be seen: " + lines[i].trim());
            }
        }
    }

    private static boolean isStepped(String condition, String steps) {
        Matcher name = Pattern.compile("[a-z]\\w*").matcher(condition);
        while (name.find()) {
            if (Pattern.compile("\\b" + name.group() + "(\\+\\+|--| \\+= | /= )").matcher(steps).find()) {
                return true;
            }
        }
        return false;
    }

    public static void main(String[] args) throws IOException {
        Path path = Path.of(System.getProperty("oyster.source", "src/main/java/OysterSecrets.java"));
        String source = Files.readString(path, StandardCharsets.UTF_8);
        for (int i = 0; i < source.length(); i++) {
            if (source.charAt(i) > 126) {
                Due.fault("a sign above 126 at " + i);
            }
        }
        String bare = withoutCommentsAndTexts(source);
        for (String barred : BARRED) {
            Matcher m = Pattern.compile(barred).matcher(bare);
            if (m.find()) {
                Due.fault("'" + m.group() + "' stands in the source");
            }
        }
        library(bare);
        methodLengths(source);
        loopEnds(bare);
        Due.end();
    }
}
