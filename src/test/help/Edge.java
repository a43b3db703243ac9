import java.util.ArrayList;
import java.util.HashMap;
import java.util.HashSet;
import java.util.List;
import java.util.Map;
import java.util.Set;
import java.util.regex.Matcher;
import java.util.regex.Pattern;

/**
 * Tests of the sentences that name a boundary case. Each quotes its words from the document, where they are looked up;
 * a call that is refused is made beside an object on which it is not made, and the two must go on alike.
 */
final class Edge {
    interface Scene {
        VersionWorks make();
    }

    interface Act {
        long on(VersionWorks x);
    }

    /** For each clause (method and exception) what of its words was quoted by a test. */
    private static final Map<String, Set<String>> QUOTED = new HashMap<>();

    private Edge() {
    }

    /** A sentence of a part or of a method, of which the calls behind are the test. */
    static void says(String where, String words) {
        Due.yes("the document says, " + where + ": " + words, Doc.says(where, words));
        QUOTED.computeIfAbsent(where, key -> new HashSet<>()).add(words);
    }

    /** A sentence, and the answer that is due by it. */
    static void is(String where, String words, Object due, Scene scene, Act act) {
        says(where, words);
        Due.is(where + ", " + words, due, () -> act.on(scene.make()));
    }

    /** What a section says in this form must be in what a test quoted of it. */
    static void allSaid(String where, String form) {
        Matcher m = Pattern.compile(form).matcher(Doc.section(where));
        while (m.find()) {
            String found = m.group();
            boolean quoted = QUOTED.getOrDefault(where, Set.of()).stream().anyMatch(words -> words.contains(found));
            Due.yes(where + ": no test quotes: " + found, quoted);
        }
    }

    static long yes(boolean answer) {
        return answer ? 1 : 0;
    }

    static void index(String method, String words, Scene scene, Act act) {
        clause(method, Due.INDEX, words);
        refused(method + ", " + words, Due.INDEX, scene, act);
    }

    static void argument(String method, String words, Scene scene, Act act) {
        clause(method, Due.ARGUMENT, words);
        refused(method + ", " + words, Due.ARGUMENT, scene, act);
    }

    static void state(String method, String words, Scene scene, Act act) {
        clause(method, Due.STATE, words);
        refused(method + ", " + words, Due.STATE, scene, act);
        VersionWorks x = scene.make();
        VersionWorks y = scene.make();
        Due.told(() -> act.on(x));
        goOn(x);
        goOn(y);
        Due.same(method + ", " + words + ": it goes on alike", "", Whole.difference(Whole.of(y), Whole.of(x)));
    }

    private static void clause(String method, String exception, String words) {
        Due.yes(method + " throws " + exception + ": " + words, Doc.clause(method, exception).contains(words));
        QUOTED.computeIfAbsent(method + " " + exception, key -> new HashSet<>()).add(words);
    }

    /** A call throws, and nothing that can be asked is another than before. */
    static void refused(String what, String exception, Scene scene, Act act) {
        VersionWorks x = scene.make();
        String before = Whole.of(x);
        Due.is(what, exception, () -> act.on(x));
        Due.same(what + ": nothing changed", "", Whole.difference(before, Whole.of(x)));
    }

    /** What is not to be asked (of whom an operation is, what is still to do for it) shows as it goes on. */
    private static void goOn(VersionWorks x) {
        for (int r = 0; r < 2; r++) {
            int repo = r;
            for (int p = 0; p < 16; p++) {
                if (x.staged(r, p) == 4) {
                    x.mergeFile(r, p, 2);
                    int path = p;
                    Due.told(() -> x.add(repo, path));
                }
            }
            for (int k = 0; k < 4; k++) {
                Due.told(() -> x.proceed(repo));
                Due.told(() -> x.skip(repo));
            }
            Due.told(() -> x.stashPop(repo, 0, false) ? 1 : 0);
            x.rehearse(r, 4711, 30);
        }
        Due.told(() -> x.bisectEnd(0));
    }

    /**
     * The room that an act needs: with just as many numbers left as it takes it comes to the same, with one fewer it
     * is refused, and no stamp is another, though the clock went on.
     */
    static void room(String method, int repo, Scene scene, Act act) {
        room(method, repo, repo, scene, act);
    }

    /** The same for an act of one repository that takes numbers of another one. */
    static void room(String method, int repo, int taker, Scene scene, Act act) {
        VersionWorks free = scene.make();
        int before = free.objects(taker);
        String due = Due.told(() -> act.on(free));
        int takes = free.objects(taker) - before;
        Due.yes(method + " takes room", takes > 0);
        VersionWorks enough = scene.make();
        Scenes.fill(enough, taker, takes);
        String got = Due.told(() -> act.on(enough));
        Due.yes(method + " with just enough room: " + got, got.endsWith("Exception") == due.endsWith("Exception"));
        Due.same(method + " with just enough room", 240, enough.objects(taker));
        state(method, "no room", () -> {
            VersionWorks x = scene.make();
            x.tick(taker, 1);
            Scenes.fill(x, taker, takes - 1);
            x.tick(taker, 1);
            return x;
        }, act);
    }

    /** Each word of a clause must be in what a test quoted, but for those by which reasons are joined. */
    static void allQuoted(String method, String exception) {
        String rest = Doc.clause(method, exception);
        List<String> quoted = new ArrayList<>(QUOTED.getOrDefault(method + " " + exception, Set.of()));
        quoted.sort((one, other) -> other.length() - one.length());
        for (String words : quoted) {
            rest = rest.replace(words, "|");
        }
        String words = rest.replaceAll("\\bif something is to be done\\b", "").replaceAll("\\b(if|or)\\b", "")
                .replaceAll("[|;:, ]", "");
        Due.same(method + " throws " + exception + ": words that no test quotes", "", words.isEmpty() ? "" : rest);
    }

    static void end(String name) {
        int sentences = 0;
        for (Set<String> words : QUOTED.values()) {
            sentences += words.size();
        }
        System.out.println(name + ": " + sentences + " sentences");
        Due.end(name);
    }
}
