import java.util.ArrayList;
import java.util.List;
import java.util.Random;

/** Histories that criss-cross, with long files, on the class and on the model: bases of bases, merges, bisections. */
final class CrissRuns {
    public static void main(String[] args) {
        int from = args.length > 0 ? Integer.parseInt(args[0]) : 1;
        int to = args.length > 1 ? Integer.parseInt(args[1]) : 25;
        for (int seed = from; seed <= to; seed++) {
            run(seed);
            layers(seed);
            toggles(seed);
        }
        if (args.length > 2) {
            System.out.println(Pair.SEEN);
        }
        Due.end("CrissRuns");
    }

    private static void run(int seed) {
        Random random = new Random(seed);
        Pair pair = new Pair("criss seed " + seed);
        int paths = 1 + random.nextInt(3);
        boolean isLong = random.nextInt(3) == 0;
        List<Integer> tips = new ArrayList<>();
        for (int p = 0; p < paths; p++) {
            pair.call("write", 0, p * 5, 1234567L);
            for (int i = 0; isLong && i < 30; i++) {
                pair.call("insertLine", 0, p * 5, random.nextInt(7), 1 + random.nextInt(5));
            }
        }
        pair.call("addAll", 0);
        tips.add(pair.number("commit", 0, 1, 1));
        for (int step = 0; step < 60 && !pair.broken && pair.model.objects(0) < 225; step++) {
            int tip = tips.get(tips.size() - 1 - random.nextInt(Math.min(tips.size(), 4)));
            if (random.nextInt(8) == 0) {
                pair.call("reset", 0, tip, 2);
            } else {
                pair.call("detach", 0, tip);
            }
            if (random.nextInt(3) == 0) {
                pair.call("tick", 0, 1 + random.nextInt(3));
            }
            int other = tips.get(tips.size() - 1 - random.nextInt(Math.min(tips.size(), 5)));
            if (random.nextInt(5) < 2) {
                change(pair, random, paths, isLong ? 12 : 2);
            } else if (random.nextInt(4) > 0) {
                String how = pair.call("merge", 0, other, 1, random.nextInt(3), 2, random.nextInt(3));
                resolve(pair, random, how, paths);
            } else if (random.nextBoolean()) {
                String how = pair.call("rebase", 0, other, tips.get(random.nextInt(tips.size())), random.nextInt(3));
                resolve(pair, random, how, paths);
            } else {
                String how = pair.call("cherryPick", 0, other, random.nextInt(3), random.nextInt(3));
                resolve(pair, random, how, paths);
            }
            int head = pair.number("head", 0);
            if (head >= 0 && !tips.contains(head)) {
                tips.add(head);
            }
            ask(pair, random, tips, paths);
            if (random.nextInt(15) == 0) {
                pair.compareState();
            }
        }
        pair.call("branch", 0, 1, tips.get(tips.size() - 1));
        pair.call("branch", 0, 2, tips.get(tips.size() / 2));
        pair.call("branch", 0, 3, tips.get(0));
        pair.call("isSound", 0, 0);
        bisect(pair, random, tips);
        pair.call("push", 0, 1, 1, 0, 20);
        pair.call("push", 0, 1, 1, 0, 240);
        pair.call("fetch", 1, 240);
        pair.call("isSound", 1, 0);
        pair.compareState();
    }

    /** Layers of tips, each of which merges all tips of the layer below: bases of bases, down to the last depth. */
    private static void layers(int seed) {
        Random random = new Random(seed);
        Pair pair = new Pair("layers seed " + seed);
        int width = 2 + random.nextInt(2);
        pair.call("write", 0, 0, 12345678L);
        pair.call("write", 0, 5, 123L);
        pair.call("addAll", 0);
        int root = pair.number("commit", 0, 1, 1);
        List<Integer> below = new ArrayList<>();
        for (int k = 0; k < width; k++) {
            pair.call("detach", 0, root);
            change(pair, random, 2, 2);
            below.add(pair.number("head", 0));
        }
        for (int layer = 0; layer < 6 && pair.model.objects(0) < 190 && !pair.broken; layer++) {
            List<Integer> tips = new ArrayList<>();
            for (int k = 0; k < width; k++) {
                pair.call("reset", 0, below.get(k), 2);
                pair.call("detach", 0, below.get(k));
                for (int m = 1; m < width; m++) {
                    pair.call("merge", 0, below.get((k + m) % width), 1, random.nextInt(3), k, layer);
                    resolve(pair, random, pair.model.operation(0) != 0 ? "3" : "2", 2);
                }
                if (random.nextInt(3) > 0) {
                    change(pair, random, 2, 2);
                }
                tips.add(pair.number("head", 0));
            }
            below = tips;
            ask(pair, random, tips, 2);
            ask(pair, random, tips, 2);
        }
        pair.compareState();
    }

    /** Commits of two snapshots alone, which go to and fro and merge: trees do not tell which commit is meant. */
    private static void toggles(int seed) {
        Random random = new Random(seed);
        Pair pair = new Pair("toggles seed " + seed);
        List<Integer> tips = new ArrayList<>();
        for (int step = 0; step < 40; step++) {
            int length = tips.size();
            if (length > 2) {
                pair.call("reset", 0, tips.get(length - 1 - random.nextInt(3)), 2);
            }
            if (length > 3 && random.nextInt(3) > 0) {
                int other = tips.get(length - 1 - random.nextInt(Math.min(length, 5)));
                pair.call("merge", 0, other, 1, 1 + random.nextInt(2), 1, step);
            } else {
                boolean one = pair.model.fileLines(0, 0) == 1 && pair.model.fileLine(0, 0, 0) == 1;
                pair.call("write", 0, 0, one ? 2L : 1L);
                pair.call("addAll", 0);
                pair.call("commit", 0, 1, step);
            }
            if (!tips.contains(pair.model.head(0))) {
                tips.add(pair.model.head(0));
            }
        }
        bisect(pair, random, tips);
    }

    private static void change(Pair pair, Random random, int paths, int most) {
        int path = random.nextInt(paths) * 5;
        int times = 1 + random.nextInt(most);
        for (int i = 0; i < times; i++) {
            int lines = pair.number("fileLines", 0, path);
            if (lines > 0 && random.nextInt(3) == 0) {
                pair.call("deleteLine", 0, path, random.nextInt(lines));
            } else {
                pair.call("insertLine", 0, path, random.nextInt(Math.max(lines, 0) + 1), 1 + random.nextInt(5));
            }
        }
        if (random.nextInt(12) == 0) {
            pair.call("moveFile", 0, path, path + 1);
        }
        if (random.nextInt(12) == 0) {
            pair.call("removeFile", 0, path);
        }
        pair.call("addAll", 0);
        pair.call("commit", 0, 1, random.nextInt(3));
    }

    private static void resolve(Pair pair, Random random, String how, int paths) {
        for (int turn = 0; turn < 20 && how.equals("3"); turn++) {
            int what = random.nextInt(6);
            if (what == 0) {
                pair.call("abort", 0);
                return;
            }
            if (what == 1) {
                how = pair.call("skip", 0);
            } else {
                for (int p = 0; p < 16; p++) {
                    if (pair.model.staged(0, p) == 4) {
                        for (int k = 0; k < 3; k++) {
                            pair.call("stage", 0, p, k);
                        }
                        if (random.nextBoolean()) {
                            pair.call("mergeFile", 0, p, random.nextInt(3));
                        } else if (random.nextBoolean()) {
                            pair.call("takeStage", 0, p, random.nextInt(3));
                        }
                        pair.call("add", 0, p);
                    }
                }
                how = pair.call("proceed", 0);
            }
        }
        if (pair.model.operation(0) != 0) {
            pair.call("abort", 0);
        }
    }

    private static void ask(Pair pair, Random random, List<Integer> tips, int paths) {
        for (int i = 0; i < 2; i++) {
            int a = tips.get(tips.size() - 1 - random.nextInt(Math.min(tips.size(), 6)));
            int b = tips.get(tips.size() - 1 - random.nextInt(Math.min(tips.size(), 6)));
            int path = random.nextInt(paths) * 5;
            int bases = pair.number("bases", 0, a, b);
            for (int k = 0; k < bases; k++) {
                pair.call("base", 0, a, b, k);
            }
            pair.call("ahead", 0, a, b);
            pair.call("generation", 0, a);
            pair.call("wouldClash", 0, a, b);
            int lines = pair.number("mergedLines", 0, a, b, path);
            for (int k = 0; k <= lines; k++) {
                pair.call("mergedLine", 0, a, b, path, k);
            }
            lines = pair.number("baseLines", 0, a, b, path);
            for (int k = 0; k <= lines; k++) {
                pair.call("baseLine", 0, a, b, path, k);
            }
            pair.call("pathLog", 0, a, path);
            pair.call("blame", 0, a, path, random.nextInt(8), random.nextInt(101));
            pair.call("blamePath", 0, a, path + 1, random.nextInt(8), random.nextInt(101));
            pair.call("renamedFrom", 0, a, b, path + 1, 1 + random.nextInt(100));
        }
    }

    private static void bisect(Pair pair, Random random, List<Integer> tips) {
        for (int round = 0; round < 3; round++) {
            int bad = tips.get(tips.size() - 1 - random.nextInt(Math.min(tips.size(), 8)));
            int good = tips.get(random.nextInt(tips.size()));
            if (pair.call("bisectStart", 0, bad, good).endsWith("Exception")) {
                continue;
            }
            for (int step = 0; step < 8; step++) {
                pair.call("tests", 0);
                pair.call("culprit", 0);
                pair.call("isSound", 0, 10);
                int left = pair.number("left", 0);
                for (int k = 0; k <= left && k < 12; k++) {
                    String c = pair.call("leftAt", 0, k);
                    if (!c.endsWith("Exception")) {
                        pair.call("weight", 0, Integer.parseInt(c));
                        pair.call("testsFor", 0, Integer.parseInt(c));
                    }
                }
                int next = pair.number("nextTest", 0);
                int what = random.nextInt(5);
                if (next >= 0) {
                    pair.call(what < 2 ? "bisectBad" : what < 4 ? "bisectGood" : "bisectSkip", 0, next);
                }
                pair.call("reached", 0);
            }
            pair.call("collect", 0, random.nextInt(3));
            pair.call("bisectEnd", 0);
        }
    }
}
