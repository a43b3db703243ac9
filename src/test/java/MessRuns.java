import java.util.ArrayList;
import java.util.List;
import java.util.Random;

/**
 * Random acts on the class and on the model, over working files that are in the way: untracked, changed, removed, moved
 * ahead of the index. Of every other run the repositories are nearly full, so that acts find no room halfway.
 */
final class MessRuns {
    private static final int[] PATHS = {0, 1, 5, 6};

    public static void main(String[] args) {
        int from = args.length > 0 ? Integer.parseInt(args[0]) : 1;
        int to = args.length > 1 ? Integer.parseInt(args[1]) : 120;
        for (int seed = from; seed <= to; seed++) {
            run(seed);
        }
        if (args.length > 2) {
            System.out.println(Pair.SEEN);
        }
        Due.end("MessRuns");
    }

    private static void run(int seed) {
        Random random = new Random(seed);
        Pair pair = new Pair("mess, seed " + seed);
        history(pair, random);
        if (random.nextBoolean()) {
            for (int repo = 0; repo < 2; repo++) {
                fill(pair, repo, 226 + random.nextInt(15));
            }
        }
        for (int step = 0; step < 100 && !pair.broken; step++) {
            int repo = random.nextInt(4) == 0 ? 1 : 0;
            if (random.nextInt(3) > 0 && pair.model.head(repo) >= 0) {
                pair.call("reset", repo, pair.model.head(repo), 2);
                pair.call("clean", repo);
            }
            for (int k = random.nextInt(3); k > 0; k--) {
                mess(pair, random, repo);
            }
            act(pair, random, repo);
            if (step % 10 == 9) {
                pair.compareState();
            }
        }
        pair.call("isSound", 0, 0);
        pair.call("isSound", 1, 0);
    }

    /** Commits that add, change and remove few files, on branches of both repositories. */
    private static void history(Pair pair, Random random) {
        for (int k = 0; k < 10 && pair.model.objects(0) < 120; k++) {
            for (int n = 1 + random.nextInt(2); n > 0; n--) {
                int path = PATHS[random.nextInt(4)];
                if (random.nextInt(4) == 0) {
                    pair.call("removeFile", 0, path);
                } else {
                    pair.call("write", 0, path, digits(random));
                }
            }
            pair.call("addAll", 0);
            pair.call("commit", 0, k % 10, k);
            if (random.nextInt(3) == 0) {
                pair.call("branch", 0, random.nextInt(4), pair.model.head(0));
            }
            if (random.nextInt(4) == 0) {
                pair.call("detach", 0, commit(pair, random, 0));
            }
            if (random.nextInt(5) == 0) {
                pair.call("startBranch", 0, random.nextInt(6));
            }
            pair.call("tick", 0, 1);
        }
        pair.call("fetch", 1, 240);
        pair.call("reset", 1, commit(pair, random, 1), 2);
        stash(pair, random, 0);
        stash(pair, random, 1);
    }

    private static void stash(Pair pair, Random random, int repo) {
        for (int k = 0; k < 3; k++) {
            int path = PATHS[random.nextInt(4)];
            pair.call("write", repo, path, digits(random));
            pair.call("add", repo, path);
            mess(pair, random, repo);
        }
        pair.call("stashPush", repo, 5, 6);
    }

    /** A stash is applied over an index that may be another one by then. */
    private static void unstash(Pair pair, Random random, int repo, String method) {
        int stash = random.nextInt(Math.max(pair.model.stashes(repo), 1));
        for (int k = random.nextInt(3); k > 0; k--) {
            int path = PATHS[random.nextInt(4)];
            pair.call("write", repo, path, digits(random));
            pair.call("add", repo, path);
        }
        pair.call(method, repo, stash, random.nextInt(3) > 0);
    }

    private static void fill(Pair pair, int repo, int count) {
        for (int k = 0; k < 240 && pair.model.objects(repo) < count; k++) {
            pair.call("write", repo, 15, Long.parseLong(Integer.toString(k + 1000, 9).replace("0", "9")));
            pair.call("add", repo, 15);
        }
        pair.call("unstage", repo, 15);
        pair.call("clean", repo);
    }

    /** Rows that differ at their front, in their middle or at their end, so that many merges are clear. */
    private static long digits(Random random) {
        if (random.nextInt(6) == 0) {
            return random.nextInt(2) * 77;
        }
        String front = new String[] {"1", "9", "11", ""}[random.nextInt(4)];
        String middle = new String[] {"45", "4", "475"}[random.nextInt(3)];
        return Long.parseLong(front + "23" + middle + "67" + (6 + random.nextInt(3)));
    }

    private static int commit(Pair pair, Random random, int repo) {
        List<Integer> all = new ArrayList<>();
        for (int o = 0; o < pair.model.objects(repo); o++) {
            if (pair.model.kind(repo, o) == 2) {
                all.add(o);
            }
        }
        return all.isEmpty() ? 0 : all.get(random.nextInt(all.size()));
    }

    private static void mess(Pair pair, Random random, int repo) {
        int path = PATHS[random.nextInt(4)];
        int what = random.nextInt(9);
        if (what < 3) {
            pair.call("write", repo, path, digits(random));
        } else if (what == 3) {
            pair.call("removeFile", repo, path);
        } else if (what == 4) {
            pair.call("add", repo, path);
        } else if (what == 5) {
            pair.call("unstage", repo, path);
        } else if (what == 6) {
            pair.call("restore", repo, path);
        } else if (what == 7) {
            pair.call("moveFile", repo, path, PATHS[random.nextInt(4)]);
        } else {
            pair.call("clean", repo);
        }
    }

    private static void act(Pair pair, Random random, int repo) {
        int commit = commit(pair, random, repo);
        int favour = random.nextInt(3);
        int branch = random.nextInt(4);
        boolean half = random.nextBoolean();
        if (pair.model.operation(repo) != 0) {
            goOn(pair, random, repo, branch);
            return;
        }
        switch (random.nextInt(16)) {
            case 0: case 1: pair.call("rebase", repo, commit(pair, random, repo), commit, favour); break;
            case 2: pair.call("rebase", repo, commit, commit, favour); break;
            case 3: pair.call("merge", repo, commit, random.nextInt(3), favour, 1, 2); break;
            case 4: pair.call("cherryPick", repo, commit, half ? 0 : random.nextInt(3), favour); break;
            case 5: pair.call("revert", repo, commit, half ? 0 : random.nextInt(3), favour, 3, 4); break;
            case 6: stash(pair, random, repo); break;
            case 7: unstash(pair, random, repo, "stashApply"); break;
            case 8: unstash(pair, random, repo, half ? "stashPop" : "stashApply"); break;
            case 9: pair.call("switchTo", repo, branch); break;
            case 10: pair.call("detach", repo, commit); break;
            case 11: pair.call("reset", repo, commit, random.nextInt(3)); break;
            case 12: pair.call("commit", repo, 7, random.nextInt(100)); break;
            case 13: pair.call("push", 1 - repo, branch, Math.max(pair.model.headBranch(repo), 0), favour, half ? 240 : 1 + random.nextInt(4));
                break;
            case 14: pair.call("fetch", repo, half ? 240 : 1 + random.nextInt(9)); break;
            default: packOrCollect(pair, random, repo);
        }
    }

    private static void goOn(Pair pair, Random random, int repo, int branch) {
        for (int path = 0; path < 16; path++) {
            if (pair.model.staged(repo, path) == 4 && random.nextInt(4) > 0) {
                pair.call(random.nextBoolean() ? "takeStage" : "mergeFile", repo, path, random.nextInt(3));
                pair.call("add", repo, path);
            }
        }
        switch (random.nextInt(6)) {
            case 0: pair.call("skip", repo); break;
            case 1: pair.call("abort", repo); break;
            case 2: pair.call("push", 1 - repo, branch, random.nextInt(4), 1, 240); break;
            case 3: packOrCollect(pair, random, repo); break;
            default: pair.call("proceed", repo);
        }
    }

    private static void packOrCollect(Pair pair, Random random, int repo) {
        if (random.nextBoolean()) {
            pair.call("pack", repo, 1 + random.nextInt(8), 1 + random.nextInt(8));
        } else {
            pair.call("expireReflog", repo, random.nextInt(4));
            pair.call("collect", repo, random.nextInt(3));
        }
        pair.call("packSize", repo);
        pair.call("tick", repo, 1);
    }
}
