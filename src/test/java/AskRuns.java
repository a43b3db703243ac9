import java.util.ArrayList;
import java.util.List;
import java.util.Random;

/** Random histories, of which all that takes more than one argument is asked, on the class and on the model beside it. */
final class AskRuns {
    private static final int[] LIMITS = {0, 1, 50, 67, 100};
    private static final int NONE = -1;

    public static void main(String[] args) {
        int from = args.length > 0 ? Integer.parseInt(args[0]) : 1;
        int to = args.length > 1 ? Integer.parseInt(args[1]) : 12;
        for (int seed = from; seed <= to; seed++) {
            run(seed);
        }
        if (args.length > 2) {
            System.out.println(Pair.SEEN);
        }
        Due.end("AskRuns");
    }

    private static void run(int seed) {
        Random random = new Random(seed);
        Pair pair = new Pair("ask seed " + seed);
        for (int turn = 0; turn < 3 && !pair.broken; turn++) {
            for (int step = 0; step < 40; step++) {
                pair.random(Pair.ACTING, random, random.nextInt(6) == 0 ? 1 : 0);
            }
            pair.call("rehearse", 0, random.nextInt(65536), 40);
            moveAbout(pair, random);
            if (random.nextBoolean()) {
                pair.call("pack", 0, random.nextInt(9), random.nextInt(9));
            }
            for (int repo = 0; repo < 2; repo++) {
                askObjects(pair, random, repo);
                askPairs(pair, random, repo);
                askTexts(pair, random, repo);
                askSearch(pair, repo);
            }
        }
    }

    /** Files that move, change and split, so that there are renames to find, and commits to search among. */
    private static void moveAbout(Pair pair, Random random) {
        if (pair.model.operation(0) != 0) {
            pair.call("abort", 0);
        }
        for (int step = 0; step < 6; step++) {
            int path = random.nextInt(16);
            for (int k = 0; k < 16 && pair.model.fileLines(0, path) < 2; k++) {
                path = (path + 1) % 16;
            }
            int lines = pair.model.fileLines(0, path);
            int other = random.nextInt(16);
            pair.call("moveFile", 0, path, other);
            if (random.nextBoolean()) {
                pair.call("deleteLine", 0, other, random.nextInt(Math.max(lines, 1)));
            }
            if (random.nextBoolean()) {
                pair.call("insertLine", 0, other, random.nextInt(Math.max(lines, 1)), 1 + random.nextInt(3));
            }
            if (random.nextInt(3) == 0) {
                pair.call("write", 0, path, random.nextBoolean() ? 12123L : 3121L);
            }
            pair.call("addAll", 0);
            pair.call("commit", 0, step, random.nextInt(100));
            if (random.nextInt(3) == 0) {
                pair.call("tick", 0, 1);
            }
            if (random.nextInt(3) == 0) {
                pair.call("merge", 0, pair.argument('c', random, 0), 1, 1 + random.nextInt(2), 0, 0);
            }
        }
        List<Integer> commits = all(pair, 0, 2);
        if (!commits.isEmpty()) {
            pair.call("bisectStart", 0, commits.get(commits.size() - 1), commits.get(random.nextInt(commits.size())));
        }
    }

    private static List<Integer> all(Pair pair, int repo, int kind) {
        List<Integer> out = new ArrayList<>();
        for (int o = 0; o < pair.model.objects(repo); o++) {
            if (pair.model.kind(repo, o) == kind) {
                out.add(o);
            }
        }
        return out;
    }

    /** Some of a row, in no order, some twice. */
    private static List<Integer> some(List<Integer> row, Random random, int most) {
        List<Integer> out = new ArrayList<>();
        for (int k = 0; k < most && !row.isEmpty(); k++) {
            out.add(row.get(random.nextInt(row.size())));
        }
        return out;
    }

    private static void askObjects(Pair pair, Random random, int repo) {
        for (int o = 0; o < pair.model.objects(repo); o++) {
            pair.call("twin", repo, o);
            pair.call("isReached", repo, o);
        }
        int dangling = pair.number("dangling", repo);
        for (int k = 0; k <= dangling; k++) {
            pair.call("danglingAt", repo, k);
        }
        for (int blob : all(pair, repo, 0)) {
            for (int k = 0; k <= pair.model.blobLines(repo, blob); k++) {
                pair.call("packedLine", repo, blob, k);
            }
        }
        for (int commit : all(pair, repo, 2)) {
            pair.call("generation", repo, commit);
            pair.call("describe", repo, commit);
            pair.call("containing", repo, commit);
            pair.call("wouldSend", repo, commit);
            for (int path = 0; path < 16; path++) {
                pair.call("blobAt", repo, commit, path);
            }
        }
        for (int commit : some(all(pair, repo, 2), random, 6)) {
            for (int path = 0; path < 16; path++) {
                askPath(pair, repo, commit, path);
            }
        }
    }

    private static void askPath(Pair pair, int repo, int commit, int path) {
        int entries = pair.number("pathLog", repo, commit, path);
        for (int k = 0; k <= entries; k++) {
            pair.call("pathLogAt", repo, commit, path, k);
        }
        int blob = pair.model.blobAt(repo, commit, path);
        int lines = blob == NONE ? 0 : pair.model.blobLines(repo, blob);
        for (int k = 0; k <= lines; k++) {
            for (int limit : LIMITS) {
                pair.call("blame", repo, commit, path, k, limit);
                pair.call("blamePath", repo, commit, path, k, limit);
                pair.call("blamePlace", repo, commit, path, k, limit);
            }
        }
    }

    private static void askPairs(Pair pair, Random random, int repo) {
        List<Integer> blobs = all(pair, repo, 0);
        blobs.add(NONE);
        for (int older : some(blobs, random, 6)) {
            for (int newer : some(blobs, random, 4)) {
                askDifference(pair, repo, older, newer);
            }
        }
        List<Integer> commits = all(pair, repo, 2);
        for (int commit : some(commits, random, 6)) {
            for (int other : some(commits, random, 4)) {
                askCommits(pair, repo, commit, other);
            }
        }
    }

    private static void askDifference(Pair pair, int repo, int older, int newer) {
        pair.call("diffSize", repo, older, newer);
        pair.call("likeness", repo, older, newer);
        pair.call("deltaCost", repo, older, newer);
        int lines = older == NONE ? 0 : pair.model.blobLines(repo, older);
        for (int k = 0; k <= lines; k++) {
            pair.call("diffPair", repo, older, newer, k);
        }
        for (int context : new int[] {0, 1, 2, 3, 9, 10}) {
            String found = pair.call("hunks", repo, older, newer, context);
            int hunks = found.endsWith("Exception") ? 0 : Integer.parseInt(found);
            for (int k = -1; k <= hunks; k++) {
                for (boolean side : new boolean[] {false, true}) {
                    pair.call("hunkStart", repo, older, newer, context, k, side);
                    pair.call("hunkLength", repo, older, newer, context, k, side);
                }
            }
        }
    }

    private static void askCommits(Pair pair, int repo, int commit, int other) {
        pair.call("isAncestor", repo, commit, other);
        pair.call("ahead", repo, commit, other);
        pair.call("changed", repo, commit, other);
        pair.call("wouldClash", repo, commit, other);
        int bases = pair.number("bases", repo, commit, other);
        for (int k = 0; k <= bases; k++) {
            pair.call("base", repo, commit, other, k);
        }
        for (int path = 0; path < 16; path++) {
            for (int limit : LIMITS) {
                pair.call("renamedFrom", repo, commit, other, path, limit);
            }
            int lines = pair.number("mergedLines", repo, commit, other, path);
            for (int k = 0; k <= lines; k++) {
                pair.call("mergedLine", repo, commit, other, path, k);
            }
            lines = pair.number("baseLines", repo, commit, other, path);
            for (int k = 0; k <= lines; k++) {
                pair.call("baseLine", repo, commit, other, path, k);
            }
        }
    }

    /** Texts of the grammar, one in four with a character that is put in, left out, or another. */
    private static void askTexts(Pair pair, Random random, int repo) {
        for (int round = 0; round < 40; round++) {
            StringBuilder text = new StringBuilder(revision(random));
            if (random.nextInt(3) > 0) {
                text.append(random.nextBoolean() ? ".." : "...").append(revision(random));
            }
            int fault = random.nextInt(8);
            int at = random.nextInt(text.length());
            if (fault == 0) {
                text.insert(at, letter(random));
            } else if (fault == 1) {
                text.setCharAt(at, letter(random));
            }
            pair.call("clearText");
            for (int k = 0; k < text.length(); k++) {
                pair.call("type", (int) text.charAt(k));
                if (random.nextInt(6) == 0) {
                    pair.call("fault");
                }
            }
            pair.call("fault");
            pair.call("resolve", repo);
            String listed = pair.call("list", repo);
            int count = listed.endsWith("Exception") ? 0 : Integer.parseInt(listed);
            for (int k = -1; k <= count; k++) {
                pair.call("listed", repo, k);
            }
        }
    }

    private static char letter(Random random) {
        return "HBTR@~^.0123456789!a".charAt(random.nextInt(20));
    }

    private static String revision(Random random) {
        StringBuilder text = new StringBuilder();
        int start = random.nextInt(5);
        if (start < 2) {
            text.append('H');
            if (start == 1) {
                text.append('@').append(random.nextInt(random.nextBoolean() ? 6 : 33));
            }
        } else {
            text.append("BTR".charAt(start - 2)).append(random.nextInt(random.nextInt(3) == 0 ? 6 : 2));
        }
        for (int steps = random.nextInt(random.nextInt(3) + 1); steps > 0; steps--) {
            if (random.nextBoolean()) {
                text.append('~');
                if (random.nextBoolean()) {
                    text.append(random.nextInt(8) == 0 ? "0" : "").append(random.nextInt(random.nextInt(8) == 0 ? 99 : 4));
                }
            } else {
                text.append('^').append(random.nextBoolean() ? "" : random.nextInt(random.nextInt(4) == 0 ? 3 : 2));
            }
        }
        return text.toString();
    }

    private static void askSearch(Pair pair, int repo) {
        int left = pair.number("left", repo);
        for (int k = 0; k <= left; k++) {
            String commit = pair.call("leftAt", repo, k);
            if (!commit.endsWith("Exception")) {
                pair.call("weight", repo, Integer.parseInt(commit));
                pair.call("testsFor", repo, Integer.parseInt(commit));
            }
        }
        pair.call("tests", repo);
        pair.call("nextTest", repo);
        pair.call("culprit", repo);
        pair.call("isSound", repo, 0);
    }
}
