import java.util.Random;

/**
 * Random calls on the class and on the model, with arguments from the ends of their ranges, on repositories that come to
 * their ends: rows of 60 lines, 30 entries, 6 stashes, the last numbers of objects, the last time, texts of 60 characters.
 */
final class EndRuns {
    public static void main(String[] args) {
        int from = args.length > 0 ? Integer.parseInt(args[0]) : 1;
        int to = args.length > 1 ? Integer.parseInt(args[1]) : 40;
        for (int seed = from; seed <= to; seed++) {
            run(seed);
        }
        if (args.length > 2) {
            System.out.println(Pair.SEEN);
        }
        Due.end("EndRuns");
    }

    private static void run(int seed) {
        Random random = new Random(seed);
        Pair pair = new Pair("ends, seed " + seed);
        pair.ends = true;
        int repo = 0;
        prepare(pair, random);
        for (int step = 0; step < 300 && !pair.broken; step++) {
            if (random.nextInt(15) == 0) {
                repo = 1 - repo;
            }
            pair.random(Pair.ACTING, random, repo);
            if (random.nextInt(2) == 0) {
                pair.random(Pair.ASKING, random, random.nextInt(5) == 0 ? 1 - repo : repo);
            }
            if (random.nextInt(20) == 0) {
                solve(pair, random, repo);
            }
            if (step % 50 == 49) {
                pair.compareState();
                pair.call("isSound", repo, 0);
            }
        }
        pair.compareState();
    }

    private static void prepare(Pair pair, Random random) {
        int what = random.nextInt(7);
        for (int r = 0; r < 2; r++) {
            longFiles(pair, random, r, what == 0 ? 60 : 1 + random.nextInt(60));
            pair.call("addAll", r);
            pair.call("commit", r, 0, 99);
            pair.call("branch", r, 5, pair.model.head(r));
            if (random.nextBoolean()) {
                pair.call("fetch", r, 240);
            }
        }
        if (what == 1) {
            for (int k = 0; k < 31; k++) {
                pair.call("reset", 0, pair.model.head(0), 0);
            }
        }
        if (what == 2) {
            for (int k = 0; k < 7; k++) {
                pair.call("write", 0, 15, 11L + k);
                pair.call("stashPush", 0, 9, k);
            }
        }
        if (what == 3 || what == 4) {
            int left = random.nextInt(what == 3 ? 6 : 40);
            for (int k = 0; pair.model.objects(0) < 240 - left && k < 300; k++) {
                pair.call("write", 0, 8, 1111L + k % 9 + 10 * (k / 9 % 9) + 100 * (k / 81));
                pair.call("add", 0, 8);
            }
        }
        if (what == 5) {
            for (int k = 0; k < 10; k++) {
                pair.call("tick", 0, 999);
            }
            pair.call("tick", 0, random.nextInt(10));
        }
        if (what == 6) {
            for (int k = 0; k < 58; k++) {
                pair.call("type", (int) (k == 0 ? 'H' : "~^".charAt(random.nextInt(2))));
            }
        }
    }

    private static void longFiles(Pair pair, Random random, int r, int lines) {
        for (int path : new int[] {0, 15}) {
            pair.call("write", r, path, 0L);
            for (int k = 0; k < lines; k++) {
                pair.call("insertLine", r, path, random.nextInt(k + 1), 1 + random.nextInt(r == 0 ? 99 : 3));
            }
        }
    }

    /** Goes on with an operation that stopped, so that runs do not stay in it. */
    private static void solve(Pair pair, Random random, int r) {
        for (int path = 0; path < 16; path++) {
            if (pair.model.staged(r, path) == 4) {
                pair.call("mergeFile", r, path, random.nextInt(3));
                pair.call("add", r, path);
            }
        }
        pair.call(random.nextInt(4) == 0 ? "abort" : "proceed", r);
    }
}
