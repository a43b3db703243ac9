import java.lang.reflect.Array;
import java.lang.reflect.Field;
import java.util.ArrayList;
import java.util.HashSet;
import java.util.List;
import java.util.Random;
import java.util.Set;

/**
 * What the parts tell of what is sound: it holds behind random calls, as far as it can be asked; and isSound() tells that it
 * does not, where a field inside was changed by force, as no call can do that.
 */
final class SoundTest {
    private static final int NONE = VersionWorks.NONE;

    public static void main(String[] args) throws Exception {
        for (int seed = 1; seed <= 60; seed++) {
            runs(seed);
        }
        files();
        objects();
        index();
        refs();
        history();
        merges();
        packs();
        searches();
        stashes();
        Edge.end("SoundTest");
    }

    // ---- it holds

    private static void runs(int seed) {
        Random random = new Random(seed);
        VersionWorks x = seed % 3 == 0 ? Scenes.ends() : new VersionWorks();
        for (int k = 0; k < 8; k++) {
            x.rehearse(random.nextInt(2), random.nextInt(65536), 40);
            int repo = random.nextInt(2);
            int what = random.nextInt(6);
            Due.told(() -> act(x, repo, what, random));
            for (int r = 0; r < 2; r++) {
                holds(x, r);
            }
        }
    }

    private static long act(VersionWorks x, int r, int what, Random random) {
        switch (what) {
            case 0: return x.pack(r, random.nextInt(9), random.nextInt(9));
            case 1: return x.expireReflog(r, 9) + x.collect(r, random.nextInt(9));
            case 2: return x.write(r, 0, 1 + random.nextInt(9)) + x.stashPush(r, 1, 1);
            case 3: return x.bisectStart(r, x.head(r), x.branchAt(r, random.nextInt(3)));
            case 4: return x.rebase(r, x.branchAt(r, random.nextInt(3)), x.trackAt(r, random.nextInt(3)), 0);
            default: return x.push(r, random.nextInt(3), random.nextInt(6), 1, 1 + random.nextInt(240));
        }
    }

    private static void holds(VersionWorks x, int r) {
        Edge.says("isSound", "that of the whole, if each one of the parts that tell what is sound is");
        for (int part = 0; part <= 11; part++) {
            int p = part;
            Due.is("isSound", 1, () -> Edge.yes(x.isSound(r, p)));
        }
        Edge.says("part 1", "each file has 0 to 60 lines, each of them 1 to 102");
        Edge.says("part 3", "each entry of the index, and each stage of a conflict but none, is a blob that is present, and each "
                + "conflict has two stages at least that are not none");
        for (int p = 0; p < 16; p++) {
            int lines = x.fileLines(r, p);
            Due.yes("lines", lines <= 60);
            for (int k = 0; k < lines; k++) {
                Due.yes("1 to 102", x.fileLine(r, p, k) >= 1 && x.fileLine(r, p, k) <= 102);
            }
            int entry = x.indexed(r, p);
            Due.yes("a blob", entry == NONE || x.kind(r, entry) == 0);
            int there = 0;
            for (int stage = 0; stage < 3; stage++) {
                int blob = x.stage(r, p, stage);
                there += blob == NONE ? 0 : 1;
                Due.yes("a blob", blob == NONE || x.kind(r, blob) == 0);
            }
            Due.yes("two stages at least", x.staged(r, p) == 4 ? there >= 2 && entry == NONE : there == 0);
        }
        refsHold(x, r);
        commitsHold(x, r);
        packsHold(x, r);
    }

    private static void refsHold(VersionWorks x, int r) {
        Edge.says("part 4", "the reflog has 30 entries at most, all of commits that are present, with acts 0 to 8 and dates not above the "
                + "clock, no date below that of the entry behind it");
        for (int n = 0; n < 6; n++) {
            Due.yes("a commit", x.branchAt(r, n) == NONE || x.kind(r, x.branchAt(r, n)) == 2);
            Due.yes("a commit", x.trackAt(r, n) == NONE || x.kind(r, x.trackAt(r, n)) == 2);
            Due.yes("a commit or a tag object", x.tagAt(r, n) == NONE || x.kind(r, x.tagAt(r, n)) >= 2);
        }
        Due.yes("30 at most", x.reflog(r) <= 30);
        int date = x.clock(r);
        for (int k = 0; k < x.reflog(r); k++) {
            Due.yes("a commit", x.kind(r, x.reflogCommit(r, k)) == 2);
            Due.yes("acts", x.reflogAct(r, k) >= 0 && x.reflogAct(r, k) <= 8);
            Due.yes("dates", x.reflogDate(r, k) <= date);
            date = x.reflogDate(r, k);
        }
        Edge.says("part 11", "each stash is a commit that is present and has two parents, and the second of these has the first one as its "
                + "only parent");
        for (int k = 0; k < x.stashes(r); k++) {
            int stash = x.stashAt(r, k);
            int second = x.parent(r, stash, 1);
            Due.yes("its only parent", x.parent(r, second, 0) == x.parent(r, stash, 0) && x.parent(r, second, 1) == NONE);
        }
        if (x.operation(r) != 0) {
            Due.yes("a head commit", x.head(r) != NONE);
            Due.yes("the commit of the operation", x.kind(r, x.operationCommit(r)) == 2);
            Due.yes("a rebase is detached", x.operation(r) != 4 || x.headBranch(r) == NONE);
            for (int k = 0; k < x.todo(r); k++) {
                Due.yes("to do", x.kind(r, x.todoAt(r, k)) == 2);
            }
        }
    }

    private static void commitsHold(VersionWorks x, int r) {
        Edge.says("part 2", "and no stamp is above the clock");
        Edge.says("part 5", "the generation of each commit that is present is above those of its parents, and of each two commits at which "
                + "branches or tracks are no merge base descends from another one");
        for (int o = 0; o < x.objects(r); o++) {
            if (x.kind(r, o) != NONE) {
                Due.yes("its stamp", x.stamp(r, o) <= x.clock(r));
            }
            for (int k = 0; x.kind(r, o) == 2 && k < 2; k++) {
                int parent = x.parent(r, o, k);
                Due.yes("above its parents", parent == NONE || x.generation(r, parent) < x.generation(r, o));
            }
        }
        List<Integer> tips = new ArrayList<>();
        for (int n = 0; n < 6; n++) {
            tips.add(x.branchAt(r, n));
            tips.add(x.trackAt(r, n));
        }
        tips.removeIf(commit -> commit == NONE);
        for (int one : tips) {
            for (int other : tips) {
                for (int k = 0; k < x.bases(r, one, other); k++) {
                    for (int m = 0; m < x.bases(r, one, other); m++) {
                        Due.yes("no merge base descends from another one", k == m
                                || !x.isAncestor(r, x.base(r, one, other, k), x.base(r, one, other, m)));
                    }
                }
            }
        }
        Edge.says("part 7", "merging the snapshots of the one and the other, with their base snapshot and favour 0, has conflicts at the "
                + "same paths both ways, and the same results at all others");
        for (int one = 0; one < 6; one++) {
            for (int other = 0; other < one; other++) {
                int a = x.branchAt(r, one);
                int b = x.branchAt(r, other);
                if (a != NONE && b != NONE) {
                    Due.is("the same paths both ways", x.wouldClash(r, a, b), () -> x.wouldClash(r, b, a));
                    for (int p = 0; p < 16; p++) {
                        int path = p;
                        if ((x.wouldClash(r, a, b) >> p & 1) == 0) {
                            Due.is("the same results", x.mergedLines(r, a, b, p), () -> x.mergedLines(r, b, a, path));
                        }
                    }
                }
            }
        }
    }

    private static void packsHold(VersionWorks x, int r) {
        Edge.says("part 9", "no blob has a base that is not present, is no blob, or is reached again by going from base to base; no depth is "
                + "above 8; and each line of each blob that is present is the same as it is read from the pack");
        for (int o = 0; o < x.objects(r); o++) {
            if (x.kind(r, o) != 0) {
                continue;
            }
            Set<Integer> seen = new HashSet<>();
            for (int at = o; at != NONE; at = x.packBase(r, at)) {
                Due.yes("a blob, and no other time", x.kind(r, at) == 0 && seen.add(at));
            }
            int blob = o;
            Due.is("its depth", seen.size() - 1, () -> x.packDepth(r, blob));
            Due.yes("no depth above 8", x.packDepth(r, o) <= 8);
            for (int k = 0; k < x.blobLines(r, o); k++) {
                int place = k;
                Due.is("the same line", x.blobLine(r, o, k), () -> x.packedLine(r, blob, place));
            }
        }
        Edge.says("part 10", "the bad commit is left, the search for each commit that is left ends with it, and the greatest number of tests in "
                + "these searches is the one that tests() tells");
        int most = 0;
        for (int k = 0; k < x.left(r); k++) {
            most = Math.max(most, x.testsFor(r, x.leftAt(r, k)));
        }
        if (x.left(r) != NONE) {
            Due.yes("the bad commit is left", x.left(r) > 0);
            Due.is("the greatest number", most, () -> x.tests(r));
        }
    }

    // ---- it does not hold

    /** A field inside, by the names that lead to it: an element of it is changed. */
    private static void force(Object on, String names, int place, long value) throws ReflectiveOperationException {
        Object at = on;
        String[] row = names.split(" ");
        for (int k = 0; k < row.length; k++) {
            Field field = at.getClass().getDeclaredField(row[k]);
            field.setAccessible(true);
            if (k < row.length - 1) {
                at = field.get(at);
            } else if (!field.getType().isArray()) {
                field.setInt(at, (int) value);
            } else if (field.getType() == long[].class) {
                Array.setLong(field.get(at), place, value);
            } else {
                Array.setInt(field.get(at), place, (int) value);
            }
        }
    }

    /** An element of a field inside, as it is. */
    private static long inside(Object on, String names, int place) throws ReflectiveOperationException {
        Object at = on;
        for (String name : names.split(" ")) {
            Field field = at.getClass().getDeclaredField(name);
            field.setAccessible(true);
            at = field.get(at);
        }
        return Array.getLong(at, place);
    }

    /** In a scene something is changed by force: the part and the whole are not sound; the other repository is. */
    private static void unsound(String what, int part, Edge.Scene scene, Object... changes)
            throws ReflectiveOperationException {
        VersionWorks x = scene.make();
        Due.is("before: " + what, 1, () -> Edge.yes(x.isSound(0, part)));
        for (int k = 0; k < changes.length; k += 3) {
            force(x, "first " + changes[k], (Integer) changes[k + 1], ((Number) changes[k + 2]).longValue());
        }
        Due.is("part " + part + ", " + what, 0, () -> Edge.yes(x.isSound(0, part)));
        Due.is("the whole, " + what, 0, () -> Edge.yes(x.isSound(0, 0)));
        if (part != 8) {
            Due.is("the other repository, " + what, 1, () -> Edge.yes(x.isSound(1, part)));
        }
        if (part == 1 || part == 4 || part == 11) {
            for (int other : new int[] {2, 3, 5, 8, 10}) {
                Due.is("part " + other + " all the same, " + what, 1, () -> Edge.yes(x.isSound(0, other)));
            }
        }
    }

    private static void files() throws ReflectiveOperationException {
        Edge.says("part 1", "The part is sound, if each file has 0 to 60 lines, each of them 1 to 102");
        Edge.Scene ends = Scenes::ends;
        unsound("a line 103", 1, ends, "desk files lines", 0, 103);
        unsound("a line 0", 1, ends, "desk files lines", 0, 0);
        unsound("the last line", 1, ends, "desk files lines", 5, 103);
        unsound("the last path", 1, ends, "desk files lines", 900, 103);
        unsound("61 lines", 1, ends, "desk files lengths", 1, 61);
        unsound("fewer lines than nothing", 1, ends, "desk files lengths", 1, -2);
        VersionWorks x = ends.make();
        for (int line : new int[] {1, 102}) {
            force(x, "first desk files lines", 0, line);
            Due.is("a line " + line, 1, () -> Edge.yes(x.isSound(0, 1)));
        }
        force(x, "first desk files lines", 6, 999);
        Due.is("behind the last line nothing is asked", 1, () -> Edge.yes(x.isSound(0, 1)));
    }

    private static void objects() throws ReflectiveOperationException {
        Edge.says("part 2", "of each object that is present all parts are present, with lower numbers and of the kinds that are told, no two "
                + "objects that are present hold the same, and no stamp is above the clock");
        Edge.Scene ends = Scenes::ends;
        int root = Scenes.TREE;
        unsound("a stamp above the clock", 2, ends, "store stamps", Scenes.BLOB, 1);
        unsound("the stamp of the last object", 2, ends, "store stamps", Scenes.COUNT - 1, 1);
        unsound("a part that is not present", 2, ends, "store parts", 4 * root, Scenes.GONE);
        unsound("a part of no object", 2, ends, "store parts", 4 * root, Scenes.COUNT);
        unsound("a part with a greater number", 2, ends, "store parts", 4 * Scenes.ROOT + 1, Scenes.TOP);
        unsound("itself as a part", 2, ends, "store parts", 4 * Scenes.ROOT + 1, Scenes.ROOT);
        unsound("a tree with a commit", 2, ends, "store parts", 4 * Scenes.ends().rootTree(0, Scenes.TOP), Scenes.ROOT);
        unsound("a tree with a blob and a tree", 2, ends, "store parts", 4 * root + 1, Scenes.BLOB);
        unsound("a commit with a blob as its root", 2, ends, "store parts", 4 * Scenes.TOP, Scenes.BLOB);
        unsound("a commit without a root", 2, ends, "store parts", 4 * Scenes.TOP, NONE);
        unsound("a commit with a tree as its parent", 2, ends, "store parts", 4 * Scenes.TOP + 1, root);
        unsound("a commit with four parts", 2, ends, "store parts", 4 * Scenes.TOP + 3, Scenes.ROOT);
        unsound("a tag object of a tree", 2, ends, "store parts", 4 * Scenes.TAGGED, root);
        unsound("a tag object of nothing", 2, ends, "store parts", 4 * Scenes.TAGGED, NONE);
        unsound("a tag object with two parts", 2, ends, "store parts", 4 * Scenes.TAGGED + 1, Scenes.ROOT);
        unsound("a blob with a part", 2, ends, "store parts", 4 * Scenes.BLOB, 0);
        int other = Scenes.ends().blobAt(0, Scenes.TOP, 7);
        int third = Scenes.ends().blobAt(0, Scenes.SIDE, 8);
        unsound("two that hold the same", 2, ends, "store lengths", other, 1, "store lines", 60 * other, 5);
        Due.is("it was one line of 5", 5, () -> Scenes.ends().blobLine(0, third, 0));
    }

    private static void index() throws ReflectiveOperationException {
        Edge.says("part 3", "The part is sound, if each entry of the index, and each stage of a conflict but none, is a blob that is present, and "
                + "each conflict has two stages at least that are not none");
        Edge.Scene stopped = Scenes::stopped;
        unsound("an entry that is not present", 3, stopped, "desk entries", 7, Scenes.GONE);
        unsound("an entry that is no blob", 3, stopped, "desk entries", 7, Scenes.TREE);
        unsound("an entry that is no object", 3, stopped, "desk entries", 15, 239);
        for (int stage = 0; stage < 3; stage++) {
            unsound("a stage that is not present", 3, stopped, "desk stages", stage, Scenes.GONE);
            unsound("a stage that is no blob", 3, stopped, "desk stages", 45 + stage, Scenes.TREE);
        }
        unsound("one stage alone", 3, stopped, "desk stages", 0, NONE, "desk stages", 1, NONE);
        unsound("one stage alone", 3, stopped, "desk stages", 46, NONE, "desk stages", 47, NONE);
        unsound("one stage alone, beside a conflict with three", 3, () -> {
            VersionWorks x = new VersionWorks();
            for (int message = 1; message <= 3; message++) {
                x.write(0, 0, message);
                x.write(0, 1, message);
                x.addAll(0);
                x.commit(0, 1, message);
                x.branch(0, message, x.head(0));
                x.detach(0, x.branchAt(0, 1));
            }
            x.detach(0, x.branchAt(0, 2));
            x.merge(0, x.branchAt(0, 3), 0, 0, 1, 1);
            return x;
        }, "desk stages", 4, NONE, "desk stages", 5, NONE);
        VersionWorks x = stopped.make();
        force(x, "first desk stages", 1, NONE);
        Due.is("two stages", 1, () -> Edge.yes(x.isSound(0, 3)));
    }

    private static void refs() throws ReflectiveOperationException {
        Edge.says("part 4", "The part is sound, if each branch and track that is there, and a detached HEAD, is at a commit that is present, each "
                + "tag at a commit or tag object that is present");
        Edge.Scene ends = Scenes::ends;
        for (int wrong : new int[] {Scenes.GONE, Scenes.TREE, Scenes.BLOB, 239}) {
            unsound("a branch", 4, ends, "state branches", 5, wrong);
            unsound("a track", 4, ends, "state tracks", 5, wrong);
            unsound("a tag", 4, ends, "state tags", 5, wrong);
            unsound("the first branch", 4, ends, "state branches", 0, wrong);
            unsound("the first track", 4, ends, "state tracks", 0, wrong);
            unsound("the first tag", 4, ends, "state tags", 0, wrong);
            unsound("a detached HEAD", 4, ends, "state headOn", 0, NONE, "state headAt", 0, wrong);
            unsound("an entry of the reflog", 4, ends, "state log", 12, wrong);
        }
        unsound("a branch at a tag object", 4, ends, "state branches", 0, Scenes.TAGGED);
        unsound("an act 9", 4, ends, "state log", 1, 9);
        unsound("an act -1", 4, ends, "state log", 13, -1);
        unsound("a date above the clock", 4, ends, "state log", 2, 1);
        unsound("a date below that of the entry behind it", 4, ends, "state clock", 0, 5, "state log", 14, 1);
        unsound("31 entries", 4, () -> {
            VersionWorks x = Scenes.ends();
            for (int k = 0; k < 30; k++) {
                x.switchTo(0, 2);
            }
            return x;
        }, "state log", 89, 1);
        VersionWorks x = ends.make();
        force(x, "first state log", 1, 8);
        Due.is("an act 8", 1, () -> Edge.yes(x.isSound(0, 4)));
    }

    private static VersionWorks crossed() {
        VersionWorks x = Scenes.ends();
        x.merge(0, Scenes.SIDE, 1, 1, 0, 1);
        x.detach(0, Scenes.SIDE);
        x.merge(0, Scenes.TOP, 1, 1, 0, 2);
        x.branch(0, 1, x.head(0));
        return x;
    }

    /** The two merges are where the last two tracks are, and no branch is at either one, or at what they merge. */
    private static VersionWorks crossedTracks() {
        VersionWorks x = crossed();
        x.push(0, 1, 4, 1, 240);
        x.push(0, 2, 5, 1, 240);
        x.moveBranch(0, 1, Scenes.ROOT);
        x.moveBranch(0, 2, Scenes.ROOT);
        x.moveBranch(0, 3, Scenes.ROOT);
        x.moveBranch(0, 5, Scenes.ROOT);
        return x;
    }

    /** The two merges are where the branches 0 and 1 are, and no branch or track is at what they merge. */
    private static VersionWorks crossedFirst() {
        VersionWorks x = crossed();
        x.moveBranch(0, 0, x.branchAt(0, 2));
        for (int branch : new int[] {2, 3, 5}) {
            x.moveBranch(0, branch, Scenes.ROOT);
            x.push(0, branch, branch, 1, 240);
        }
        return x;
    }

    private static void history() throws ReflectiveOperationException {
        Edge.says("part 5", "The part is sound, if the generation of each commit that is present is above those of its parents");
        Due.is("sound, of a criss-cross", 2, () -> {
            VersionWorks x = crossed();
            return Edge.yes(x.isSound(0, 5)) * x.bases(0, x.branchAt(0, 1), x.branchAt(0, 2));
        });
        unsound("a commit that is its own parent", 5, Scenes::ends, "store parts", 4 * Scenes.TOP + 1, Scenes.TOP);
        int merge = crossed().head(0);
        unsound("a commit that is its own second parent", 5, SoundTest::crossed, "store parts", 4 * merge + 2, merge);
        for (int[] pair : new int[][] {{Scenes.TOP, Scenes.SIDE}, {Scenes.SIDE, Scenes.TOP}}) {
            int word = 4 * pair[0] + (pair[1] >> 6);
            long reach = inside(crossed(), "first store reach", word) | 1L << (pair[1] & 63);
            unsound("a merge base that descends from another one", 5, SoundTest::crossed, "store reach", word, reach);
            unsound("a merge base of the first branch", 5, SoundTest::crossedFirst, "store reach", word, reach);
            unsound("a merge base of tracks", 5, SoundTest::crossedTracks, "store reach", word, reach);
        }
        for (int path : new int[] {0, 1, 15}) {
            Edge.Scene grown = () -> {
                VersionWorks x = new VersionWorks();
                Scenes.commit(x, 0, path, 7, 1);
                Scenes.commit(x, 0, (path + 1) % 16, 0, 2);
                return x;
            };
            int first = grown.make().parent(0, grown.make().head(0), 0);
            int word = 4 * grown.make().head(0) + (first >> 6);
            long reach = inside(grown.make(), "first store reach", word) & ~(1L << (first & 63));
            unsound("an origin that is in no ancestor", 6, grown, "store reach", word, reach);
        }
        Edge.says("part 8", "The part is sound, if each two objects of the two repositories whose numbers twin() tells have parts whose numbers "
                + "twin() tells, one by one, and twin() back tells the object itself");
        Due.is("twins are sound", 1, () -> Edge.yes(Scenes.ends().isSound(0, 8)));
        int one = Scenes.ends().blobAt(0, Scenes.TOP, 7);
        int other = Scenes.ends().blobAt(0, Scenes.SIDE, 8);
        Due.yes("it has a twin", Scenes.ends().twin(0, other) != NONE);
        long mark = inside(Scenes.ends(), "first store marks", other);
        unsound("two objects with one twin", 8, Scenes::ends, "store lengths", one, 1, "store lines", 60 * one, 5,
                "store marks", one, mark);
    }

    private static void merges() throws ReflectiveOperationException {
        Edge.says("part 7", "and, if an operation is in progress, there is a head commit, the commit of the operation is present, and, if it is "
                + "a rebase, HEAD is detached and all that is still to do is present");
        unsound("no head commit", 7, Scenes::stopped, "state branches", 2, NONE);
        unsound("no commit of the operation", 7, Scenes::stopped, "state opCommit", 0, NONE);
        unsound("one that is not present", 7, Scenes::stopped, "state opCommit", 0, Scenes.GONE);
        unsound("one that is no commit", 7, Scenes::stopped, "state opCommit", 0, Scenes.TREE);
        unsound("a rebase on a branch", 7, Scenes::rebasing, "state headOn", 0, 2);
        unsound("the first to do", 7, Scenes::rebasing, "state todo", 0, Scenes.GONE);
        unsound("the last to do", 7, Scenes::rebasing, "state todo", 1, Scenes.TREE);
        VersionWorks x = Scenes.ends();
        force(x, "first state opCommit", 0, Scenes.GONE);
        Due.is("without an operation nothing is asked", 1, () -> Edge.yes(x.isSound(0, 7)));
    }

    private static void packs() throws ReflectiveOperationException {
        Edge.says("part 9", "The part is sound, if all that is reached is present; no blob has a base that is not present, is no blob");
        Edge.Scene packed = () -> {
            VersionWorks x = Scenes.empty();
            for (int r = 0; r < 2; r++) {
                for (int p = 0; p < 10; p++) {
                    x.write(r, p, 0);
                    for (int k = 0; k < 20 - p; k++) {
                        x.insertLine(r, p, k, k + 1);
                    }
                    x.add(r, p);
                }
                x.pack(r, 1, 8);
            }
            return x;
        };
        Due.is("a row of nine", 8, () -> packed.make().packDepth(0, 8));
        unsound("a depth of 9", 9, packed, "store deltaBases", 9, 8);
        unsound("a base that is reached again", 9, packed, "store deltaBases", 0, 8);
        unsound("itself as its base", 9, packed, "store deltaBases", 0, 0);
        unsound("a base that is no blob", 9, Scenes::ends, "store deltaBases", Scenes.BLOB, Scenes.TREE);
        unsound("a base that is not present", 9, Scenes::ends, "store deltaBases", Scenes.BLOB, Scenes.GONE);
        unsound("what is reached is not present", 9, Scenes::ends, "store kinds", Scenes.BLOB, NONE);
        unsound("the commit of a branch is not present", 9, Scenes::ends, "store kinds", Scenes.SIDE, NONE);
    }

    private static void searches() throws ReflectiveOperationException {
        Edge.says("part 10", "The part is sound, if, with a bisection in progress, the bad commit is left");
        unsound("the bad commit is good", 10, Scenes::searching, "search good", 0, 1L << Scenes.TOP,
                "search bad", 0, Scenes.TOP);
        Due.is("without a bisection", 1, () -> Edge.yes(Scenes.ends().isSound(0, 10)));
    }

    private static void stashes() throws ReflectiveOperationException {
        Edge.says("part 11", "The part is sound, if each stash is a commit that is present and has two parents");
        Edge.Scene ends = Scenes::ends;
        unsound("not present", 11, ends, "state stashes", 0, Scenes.GONE);
        unsound("no commit", 11, ends, "state stashes", 1, Scenes.TREE);
        unsound("a tag object", 11, ends, "state stashes", 1, Scenes.TAGGED);
        unsound("no parent", 11, ends, "state stashes", 1, Scenes.ROOT);
        unsound("one parent", 11, ends, "state stashes", 0, Scenes.TOP);
        VersionWorks x = ends.make();
        int stash = x.stashAt(0, 0);
        int index = x.parent(0, stash, 1);
        unsound("the second has another parent", 11, ends, "store parts", 4 * index + 1, Scenes.SIDE);
        force(x, "first store parts", 4 * stash + 1, Scenes.TREE);
        force(x, "first store parts", 4 * index + 1, Scenes.TREE);
        Due.is("both have a tree as their parent", 0, () -> Edge.yes(x.isSound(0, 11)));
        unsound("the second has no parent", 11, ends, "store parts", 4 * index + 1, NONE);
        unsound("the second has two", 11, ends, "store parts", 4 * index + 2, Scenes.SIDE);
        unsound("the first is the second", 11, ends, "store parts", 4 * stash + 2, Scenes.TOP);
    }
}
