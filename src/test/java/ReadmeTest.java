import java.lang.reflect.Method;
import java.lang.reflect.Modifier;
import java.nio.file.Files;
import java.nio.file.Path;
import java.util.ArrayList;
import java.util.List;
import java.util.Set;
import java.util.TreeSet;
import java.util.regex.Matcher;
import java.util.regex.Pattern;

/** The example of README.md comes to what it says there, and its table has each method of the class once. */
final class ReadmeTest {
    public static void main(String[] args) throws Exception {
        String readme = Files.readString(Path.of("README.md"));
        isWrittenHere(readme);
        example();
        table(readme);
        Due.end("ReadmeTest");
    }

    /** Each line of the example stands in this file, so that the example is what is tested. */
    private static void isWrittenHere(String readme) throws Exception {
        String here = Files.readString(Path.of("src/test/java/ReadmeTest.java"));
        int from = readme.indexOf("```java") + 7;
        String example = readme.substring(from, readme.indexOf("```", from));
        Due.yes("there is an example", example.length() > 500);
        for (String line : example.split("\n")) {
            String code = line.replaceAll("//.*", "").strip();
            Due.yes("README.md: " + code, here.contains(code));
        }
    }

    private static void example() {
        VersionWorks works = new VersionWorks();
        works.write(0, 3, 12345);
        works.addAll(0);
        int first = works.commit(0, 1, 7);
        works.branch(0, 1, first);

        works.insertLine(0, 3, 0, 42);
        works.addAll(0);
        int second = works.commit(0, 1, 8);

        works.switchTo(0, 1);
        works.write(0, 3, 912345);
        works.addAll(0);
        works.commit(0, 2, 9);
        int outcome = works.merge(0, second, 0, 0, 1, 10);
        Due.same("it stopped at a conflict", 3, outcome);
        works.takeStage(0, 3, 1);
        works.add(0, 3);
        works.proceed(0);
        Due.same("the merge is made", second, works.parent(0, works.head(0), 1));

        for (char c : "H^2~1".toCharArray()) {
            works.type(c);
        }
        int named = works.resolve(0);
        Due.same("the first one", first, named);

        int tracks = works.fetch(1, 240);
        Due.same("tracks of both branches", 2, tracks);
        works.reset(1, works.trackAt(1, 0), 2);
        Due.same("files as on branch 0 there", 42, works.fileLine(1, 3, 0));
        works.write(1, 5, 77);
        works.addAll(1);
        works.commit(1, 3, 11);
        int pushed = works.push(1, 0, 0, 0, 240);
        Due.same("its number in repository 0", works.twin(1, works.head(1)), pushed);
        Due.same("branch 0 there", pushed, works.branchAt(0, 0));
    }

    private static void table(String readme) {
        List<String> got = new ArrayList<>();
        Matcher m = Pattern.compile("`(\\w+)`").matcher(readme.substring(readme.indexOf("| ---"), readme.indexOf("## How it is built")));
        while (m.find()) {
            got.add(m.group(1));
        }
        Set<String> want = new TreeSet<>();
        for (Method method : VersionWorks.class.getDeclaredMethods()) {
            if (Modifier.isPublic(method.getModifiers())) {
                want.add(method.getName());
            }
        }
        Due.same("the methods of the table", want, new TreeSet<>(got));
        Due.same("each once", want.size(), got.size());
    }
}
