import java.io.IOException;
import java.lang.reflect.Executable;
import java.lang.reflect.Field;
import java.lang.reflect.Modifier;
import java.nio.file.Files;
import java.nio.file.Path;
import java.util.ArrayList;
import java.util.HashMap;
import java.util.HashSet;
import java.util.List;
import java.util.Map;
import java.util.Set;
import java.util.regex.Matcher;
import java.util.regex.Pattern;

/** Rules of LANGUAGE.md that can be read off the words of the class. Runs where .ci/run does. */
public final class LanguageTest {
    private static int wrong = 0;

    /** A method or constructor: where its lines begin, and its body; the file keeps to one way of indenting. */
    private record Block(String name, boolean isConstructor, int line, List<String> body) { }

    private static void tell(String rule, String what) {
        wrong++;
        System.out.println("LANGUAGE.md, rule " + rule + ": " + what);
    }

    private static void never(String source, String rule, String pattern) {
        Matcher found = Pattern.compile(pattern).matcher(source);
        while (found.find()) {
            tell(rule, found.group().strip());
        }
    }

    private static String withoutComments(String source) {
        return source.replaceAll("(?s)/\\*.*?\\*/", "").replaceAll("//[^\n]*", "");
    }

    private static void signs(String whole) {
        for (int i = 0; i < whole.length(); i++) {
            if (whole.charAt(i) > 126) {
                tell("4", "a sign above 126");
            }
        }
    }

    private static void words(String source) {
        never(source, "4", "\\b(import|package)\\b.*");
        never(source, "4", "\\b(System\\.(?!arraycopy)|Thread|Runtime|String|List|Map|Random)\\w*");
        never(source, "4", "\\w+Exact\\b");
        never(source, "5", "\\bstatic (int|long|boolean)(\\[\\])* \\w+( =|;)");
        never(source, "5", "\\bstatic \\{");
        never(source, "6", "\\b(throw|throws|try|catch|synchronized|assert|instanceof|native|volatile)\\b");
        never(source, "2", "->|::|\\bnew \\w+\\(.*\\) \\{");
        never(source, "2", "(?m)^    (private |public )?(final )?class \\w+");
        never(source, "1", "(?m)^    (?!private |public |\\}|@)[a-z][^;{]*[;{]");
    }

    private static void namesOfPublicOnes(String source) {
        Set<String> names = new HashSet<>();
        Matcher faces = Pattern.compile("public int (\\w+)\\(").matcher(source);
        while (faces.find()) {
            names.add(faces.group(1));
        }
        if (names.size() != 32) {
            tell("1", "the face has " + names.size() + " methods");
        }
        for (String name : names) {
            never(source, "1", "(?<!public )(int|boolean|void|long|static) " + name + "\\(");
        }
    }

    private static List<Block> blocksOf(String whole) {
        Pattern header = Pattern.compile("( {4}| {8})((?:public |private |static )*)((?:int|long|boolean|void)(?:\\[\\])* )?(\\w+)\\(.*\\{");
        List<Block> blocks = new ArrayList<>();
        String indent = "";
        int number = 0;
        for (String line : whole.split("\n", -1)) {
            number++;
            Matcher found = header.matcher(line);
            if (indent.isEmpty() && found.matches()) {
                indent = found.group(1);
                blocks.add(new Block(found.group(4), found.group(3) == null, number, new ArrayList<>()));
            } else if (line.equals(indent + "}")) {
                indent = "";
            } else if (!indent.isEmpty()) {
                blocks.get(blocks.size() - 1).body.add(withoutComments(line));
            }
        }
        return blocks;
    }

    private static void lengthsOf(List<Block> blocks) {
        for (Block block : blocks) {
            if (block.body.size() > 60) {
                tell("11", "a long method, " + block.name);
            }
        }
    }

    private static void objectsMadeBy(List<Block> blocks) {
        for (Block block : blocks) {
            if (!block.isConstructor && String.join("\n", block.body).contains("new ")) {
                tell("12", "a call makes an object, " + block.name + " at line " + block.line);
            }
        }
    }

    /** Calls by name: no two methods of the file bear the same one. Those of the library count, too. */
    private static void depthsOf(List<Block> blocks) {
        Map<String, Set<String>> calls = new HashMap<>();
        for (Block block : blocks) {
            Set<String> called = new HashSet<>();
            Matcher found = Pattern.compile("(?<!\\w)(?!if\\b|for\\b|while\\b|switch\\b)(\\w+)\\(")
                    .matcher(String.join("\n", block.body));
            while (found.find()) {
                called.add(found.group(1));
            }
            if (!block.isConstructor && calls.put(block.name, called) != null) {
                tell("11", "two methods of one name, so that calls can't be told apart: " + block.name);
            }
        }
        for (String name : calls.keySet()) {
            int depth = depth(calls, name, 1);
            if (depth > 8) {
                tell("11", "calls go " + depth + " deep from " + name);
            }
        }
    }

    private static int depth(Map<String, Set<String>> calls, String name, int open) {
        int deepest = open;
        if (open < 30) {
            for (String called : calls.getOrDefault(name, Set.of())) {
                deepest = Math.max(deepest, depth(calls, called, open + 1));
            }
        }
        return deepest;
    }

    private static void sizeOf(Class<?> one) {
        int fields = 0;
        for (Field field : one.getDeclaredFields()) {
            fields += Modifier.isStatic(field.getModifiers()) ? 0 : 1;
        }
        if (fields > 20) {
            tell("11", one.getName() + " has " + fields + " fields");
        }
        List<Executable> all = new ArrayList<>(List.of(one.getDeclaredMethods()));
        all.addAll(List.of(one.getDeclaredConstructors()));
        for (Executable method : all) {
            if (method.getParameterCount() > 7) {
                tell("11", method + " has more than seven parameters");
            }
        }
    }

    private static void sizes() {
        Class<?>[] inside = NarrowingKernel.class.getDeclaredClasses();
        if (inside.length + 1 > 12) {
            tell("11", "there are " + (inside.length + 1) + " classes");
        }
        sizeOf(NarrowingKernel.class);
        for (Class<?> one : inside) {
            sizeOf(one);
        }
    }

    public static void main(String[] args) throws IOException {
        String whole = Files.readString(Path.of("src/main/java/NarrowingKernel.java"));
        String source = withoutComments(whole);
        List<Block> blocks = blocksOf(whole);
        if (blocks.size() < 32 + 1) {
            tell("11", "but " + blocks.size() + " methods can be told apart");
        }
        signs(whole);
        words(source);
        namesOfPublicOnes(source);
        lengthsOf(blocks);
        objectsMadeBy(blocks);
        depthsOf(blocks);
        sizes();
        System.out.println(wrong == 0 ? "LanguageTest: nothing found" : "LanguageTest: " + wrong + " found");
        if (wrong != 0) {
            System.exit(1);
        }
    }
}
