import java.io.IOException;
import java.nio.file.Files;
import java.nio.file.Path;
import java.util.HashSet;
import java.util.Set;
import java.util.regex.Matcher;
import java.util.regex.Pattern;

/** Rules of LANGUAGE.md that can be read off the words of the class. Runs where .ci/run does. */
public final class LanguageTest {
    private static int wrong = 0;

    private static void never(String source, String rule, String pattern) {
        Matcher found = Pattern.compile(pattern).matcher(source);
        while (found.find()) {
            wrong++;
            System.out.println("LANGUAGE.md, rule " + rule + ": " + found.group().strip());
        }
    }

    private static String withoutComments(String source) {
        return source.replaceAll("(?s)/\\*.*?\\*/", "").replaceAll("//[^\n]*", "");
    }

    private static void longMethods(String source) {
        int start = 0, number = 0;
        for (String line : source.split("\n", -1)) {
            number++;
            if (line.matches(" {4,8}(public|private|static|boolean|int|void|[A-Z]\\w*\\().*\\{")
                    && !line.contains("class")) {
                start = number;
            } else if (line.matches(" {4,8}\\}") && start > 0) {
                if (number - start > 60) {
                    wrong++;
                    System.out.println("LANGUAGE.md, rule 11: a long method at line " + start);
                }
                start = 0;
            }
        }
    }

    private static void namesOfPublicOnes(String source) {
        Set<String> names = new HashSet<>();
        Matcher faces = Pattern.compile("public int (\\w+)\\(").matcher(source);
        while (faces.find()) {
            names.add(faces.group(1));
        }
        if (names.size() != 32) {
            wrong++;
            System.out.println("the face has " + names.size() + " methods");
        }
        for (String name : names) {
            never(source, "1", "(?<!public )(int|boolean|void|long|static) " + name + "\\(");
        }
    }

    public static void main(String[] args) throws IOException {
        String whole = Files.readString(Path.of("src/main/java/NarrowingKernel.java"));
        for (int i = 0; i < whole.length(); i++) {
            if (whole.charAt(i) > 126) {
                wrong++;
                System.out.println("LANGUAGE.md, rule 4: a sign above 126");
            }
        }
        String source = withoutComments(whole);
        never(source, "4", "\\b(import|package)\\b.*");
        never(source, "4", "\\b(System\\.(?!arraycopy)|Thread|Runtime|String|List|Map|Random)\\w*");
        never(source, "4", "\\w+Exact\\b");
        never(source, "5", "\\bstatic (int|long|boolean)(\\[\\])* \\w+( =|;)");
        never(source, "6", "\\b(throw|throws|try|catch|synchronized|assert|instanceof|native|volatile)\\b");
        never(source, "2", "->|::|\\bnew \\w+\\(.*\\) \\{");
        never(source, "2", "(?m)^    (private |public )?(final )?class \\w+");
        never(source, "1", "(?m)^    (?!private |public |\\}|@)[a-z][^;{]*[;{]");
        namesOfPublicOnes(source);
        longMethods(whole);
        System.out.println(wrong == 0 ? "LanguageTest: nothing found" : "LanguageTest: " + wrong + " found");
        if (wrong != 0) {
            System.exit(1);
        }
    }
}
