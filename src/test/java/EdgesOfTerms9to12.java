/** The sentences of the parts 9 to 12 of the terms that name a boundary: packs, bisections, stashes, the rehearsal. */
final class EdgesOfTerms9to12 {
    private static final int NONE = VersionWorks.NONE;
    private static final int ROOT = Scenes.ROOT;
    private static final int TOP = Scenes.TOP;
    private static final int SIDE = Scenes.SIDE;

    public static void main(String[] args) {
        reachedByRefs();
        reachedByStashes();
        reachedByTheIndex();
        reachedByOperations();
        reachedByBisections();
        graces();
        ages();
        danglings();
        costs();
        orders();
        windows();
        depths();
        cheapest();
        loosened();
        lefts();
        weights();
        searches();
        skipped();
        stashed();
        stashRows();
        applied();
        appliedWithTheIndex();
        rehearsed();
        Edge.end("EdgesOfTerms9to12");
    }

    private static int commit(VersionWorks x, int path, long digits, int message) {
        return Scenes.commit(x, 0, path, digits, message);
    }

    // ---- what is reached

    /** An object that one thing alone reaches, but the reflog: it stays; without that thing it goes. */
    private static void alone(String what, VersionWorks x, int object, Edge.Act away) {
        x.expireReflog(0, 0);
        Due.is("reached by " + what, 1, () -> Edge.yes(x.isReached(0, object)));
        int reached = x.reached(0);
        x.tick(0, 1);
        x.collect(0, 0);
        Due.is("kept by " + what, reached, () -> x.reached(0));
        Due.yes("present by " + what, x.kind(0, object) != NONE);
        away.on(x);
        x.expireReflog(0, 0);
        Due.is("not reached without " + what, 0, () -> Edge.yes(x.isReached(0, object)));
        x.tick(0, 1);
        Due.yes("collected without " + what, x.collect(0, 0) > 0);
        Due.is("not present without " + what, NONE, () -> x.kind(0, object));
    }

    /** HEAD is on branch 0, at its second commit; branch 1 is at a commit behind it. */
    private static VersionWorks side() {
        VersionWorks x = new VersionWorks();
        commit(x, 0, 1, 1);
        commit(x, 0, 2, 2);
        x.detach(0, x.head(0));
        commit(x, 4, 3, 3);
        x.branch(0, 1, x.head(0));
        x.switchTo(0, 0);
        return x;
    }

    private static void reachedByRefs() {
        Edge.says("part 9", "the object at which a branch, a tag or a track is; the commit at which a detached HEAD is");
        int object = side().branchAt(0, 1);
        alone("a branch", side(), object, x -> x.deleteBranch(0, 1, true));
        alone("a tree of it", side(), side().rootTree(0, object), x -> x.deleteBranch(0, 1, true));
        alone("a blob of it", side(), side().blobAt(0, object, 4), x -> x.deleteBranch(0, 1, true));
        VersionWorks tag = side();
        tag.tag(0, 5, object);
        tag.deleteBranch(0, 1, true);
        alone("a tag", tag, object, x -> x.deleteTag(0, 5));
        for (boolean itself : new boolean[] {true, false}) {
            VersionWorks annotated = side();
            int made = annotated.annotate(0, 5, object, 1);
            annotated.deleteBranch(0, 1, true);
            alone("a tag at a tag object", annotated, itself ? made : object, x -> x.deleteTag(0, 5));
        }
        VersionWorks track = side();
        track.push(0, 1, 3, 0, 240);
        track.deleteBranch(0, 1, true);
        alone("a track", track, object, x -> x.pushDelete(0, 3));
        VersionWorks head = side();
        head.detach(0, object);
        head.deleteBranch(0, 1, true);
        alone("a detached HEAD", head, object, x -> x.switchTo(0, 0));
        Edge.says("part 9", "the commit of an entry of the reflog");
        VersionWorks entry = side();
        entry.deleteBranch(0, 1, true);
        Due.is("by the reflog", 1, () -> Edge.yes(entry.isReached(0, object)));
        Due.is("kept", 0, () -> entry.collect(0, 0));
        entry.expireReflog(0, 0);
        Due.is("not any more", 0, () -> Edge.yes(entry.isReached(0, object)));
        Due.is("collected: a blob, its tree, a root, a commit", 4, () -> entry.collect(0, 0));
        Due.is("HEAD on an unborn branch reaches nothing", 0, () -> {
            VersionWorks x = side();
            x.startBranch(0, 4);
            x.deleteBranch(0, 0, true);
            x.deleteBranch(0, 1, true);
            x.expireReflog(0, 0);
            x.unstage(0, 0);
            return x.reached(0);
        });
    }

    private static void reachedByStashes() {
        Edge.says("part 9", "a stash");
        for (int part = 0; part <= 1; part++) {
            VersionWorks x = side();
            x.write(0, 0, 9);
            int stash = x.stashPush(0, 1, 1);
            alone("a stash", x, part == 0 ? stash : x.parent(0, stash, 1), y -> y.stashDrop(0, 0));
        }
        Edge.says("stashDrop", "its commits stay, till they are collected");
        VersionWorks x = side();
        for (int k = 1; k <= 6; k++) {
            x.write(0, 0, 90 + k);
            x.stashPush(0, 1, k);
        }
        int last = x.stashAt(0, 5);
        alone("the last of six stashes", x, last, y -> y.stashDrop(0, 5));
        Due.is("the others stay", 5, () -> x.stashes(0));
    }

    private static void reachedByTheIndex() {
        Edge.says("part 9", "an entry or a stage of the index");
        VersionWorks entry = side();
        entry.write(0, 9, 9);
        alone("an entry", entry, entry.add(0, 9), x -> x.unstage(0, 9));
        for (int stage = 0; stage <= 2; stage++) {
            // The base is in a commit that nothing holds, ours in the index, theirs in a stash that is dropped.
            VersionWorks x = new VersionWorks();
            commit(x, 4, 4, 0);
            x.detach(0, x.head(0));
            commit(x, 0, 1, 1);
            x.write(0, 0, 2);
            x.stashPush(0, 1, 1);
            x.switchTo(0, 0);
            x.write(0, 0, 3);
            x.add(0, 0);
            Due.is("it conflicts", 0, () -> Edge.yes(x.stashApply(0, 0, false)));
            x.stashDrop(0, 0);
            alone("stage " + stage, x, x.stage(0, 0, stage), y -> y.unstage(0, 0));
        }
    }

    private static void reachedByOperations() {
        Edge.says("part 9", "of an operation in progress its commit, the commits still to do, and the commit at which HEAD was as a "
                + "rebase began");
        for (int kind = 1; kind <= 3; kind++) {
            VersionWorks x = new VersionWorks();
            int root = commit(x, 0, 1, 1);
            x.detach(0, root);
            int other = commit(x, 0, 2, 2);
            x.branch(0, 1, other);
            x.switchTo(0, 0);
            commit(x, 0, 3, 3);
            int done = kind == 1 ? x.merge(0, other, 0, 0, 1, 1) : kind == 2 ? x.cherryPick(0, other, 0, 0)
                    : x.revert(0, other, 0, 0, 1, 1);
            Due.same("it stops", 3, done);
            x.deleteBranch(0, 1, true);
            alone("an operation", x, other, y -> y.abort(0));
        }
        for (int place = 0; place <= 2; place++) {
            VersionWorks x = new VersionWorks();
            int root = commit(x, 0, 1, 1);
            int onto = commit(x, 0, 2, 2);
            x.detach(0, root);
            int[] steps = {commit(x, 0, 3, 3), commit(x, 4, 4, 4), commit(x, 8, 8, 5)};
            Due.is("it stops", 3, () -> x.rebase(0, onto, onto, 0));
            Due.is("two are to do", 2, () -> x.todo(0));
            int[] due = {x.operationCommit(0), x.todoAt(0, 0), x.todoAt(0, 1)};
            Due.same("the steps", due[place], steps[place]);
            // The last one to do is the commit at which HEAD was, too; skipped to the end, HEAD stays away from it.
            alone("a rebase", x, steps[place], y -> y.skip(0));
        }
        VersionWorks merge = new VersionWorks();
        int root = commit(merge, 0, 1, 1);
        int onto = commit(merge, 0, 2, 2);
        merge.detach(0, root);
        int step = commit(merge, 0, 3, 3);
        merge.detach(0, root);
        int side = commit(merge, 8, 8, 5);
        merge.merge(0, step, 1, 0, 1, 1);
        int was = merge.head(0);
        Due.is("it stops", 3, () -> merge.rebase(0, onto, onto, 0));
        Due.yes("the merge is not to do", merge.todo(0) < 2 && merge.operationCommit(0) != was && side >= 0);
        alone("a rebase, the commit at which HEAD was", merge, was, y -> y.skip(0));
    }

    private static void reachedByBisections() {
        Edge.says("part 9", "of a bisection its bad commit, its good ones and those that are skipped");
        VersionWorks bad = side();
        int object = bad.branchAt(0, 1);
        bad.bisectStart(0, object, bad.head(0));
        bad.deleteBranch(0, 1, true);
        alone("the bad commit", bad, object, x -> x.bisectEnd(0));
        VersionWorks good = side();
        commit(good, 0, 5, 5);
        good.bisectStart(0, good.head(0), good.branchAt(0, 1));
        good.deleteBranch(0, 1, true);
        alone("the good commit", good, object, x -> x.bisectEnd(0));
        VersionWorks second = side();
        commit(second, 0, 5, 5);
        second.bisectStart(0, second.head(0), second.parent(0, second.parent(0, second.head(0), 0), 0));
        second.bisectGood(0, object);
        second.deleteBranch(0, 1, true);
        alone("one more good commit", second, object, x -> x.bisectEnd(0));
        VersionWorks skipped = side();
        skipped.bisectStart(0, object, skipped.parent(0, skipped.head(0), 0));
        skipped.bisectSkip(0, object);
        skipped.bisectBad(0, skipped.head(0));
        skipped.deleteBranch(0, 1, true);
        alone("a skipped commit that is not left", skipped, object, x -> x.bisectEnd(0));
    }

    // ---- to collect

    private static void graces() {
        Edge.says("part 9", "an object is kept, if it is reached, if the clock less its stamp is below the grace, or if it is reached by "
                + "another object that is kept");
        for (int grace = 0; grace <= 12; grace++) {
            VersionWorks x = side();
            x.write(0, 9, 9);
            x.add(0, 9);
            x.unstage(0, 9);
            x.tick(0, 10);
            int g = grace;
            Due.is("10 below the grace", g > 10 ? 0 : 1, () -> x.collect(0, g));
        }
        VersionWorks x = side();
        x.write(0, 9, 9);
        x.add(0, 9);
        x.unstage(0, 9);
        Due.is("0 is not below 0", 1, () -> x.collect(0, 0));
        VersionWorks y = Scenes.ends();
        for (int k = 0; k < 10; k++) {
            y.tick(0, 999);
        }
        y.tick(0, 9);
        y.stashDrop(0, 0);
        y.stashDrop(0, 0);
        Due.is("9999 is not below 9999", 1, () -> y.collect(0, 9999) > 0 ? 1 : 0);
        VersionWorks z = Scenes.ends();
        for (int k = 0; k < 10; k++) {
            z.tick(0, 999);
        }
        z.tick(0, 8);
        z.stashDrop(0, 0);
        z.stashDrop(0, 0);
        Due.is("9998 is below 9999", 0, () -> z.collect(0, 9999));
        // A tag object that was stored anew is young: it keeps its commit, whose stamp is old, and all of its parts.
        VersionWorks w = side();
        int object = w.branchAt(0, 1);
        w.deleteBranch(0, 1, true);
        w.expireReflog(0, 0);
        w.tick(0, 10);
        w.annotate(0, 0, object, 1);
        w.deleteTag(0, 0);
        Due.is("reached by one that is kept", 0, () -> w.collect(0, 1));
        w.tick(0, 1);
        Due.is("all five", 5, () -> w.collect(0, 1));
        Due.is("nothing more", 0, () -> w.collect(0, 0));
        Edge.says("part 9", "All others are not present any more.");
        Due.is("not present", NONE, () -> w.kind(0, object));
    }

    private static void ages() {
        Edge.says("expireReflog", "Drops all entries of the reflog for which the clock less their date is no less than an age");
        for (int age = 0; age <= 6; age++) {
            VersionWorks x = new VersionWorks();
            for (int k = 1; k <= 5; k++) {
                commit(x, 0, k, k);
                x.tick(0, 1);
            }
            int a = age;
            Due.is("of ages 1 to 5 those no less", a == 0 ? 5 : 6 - a, () -> x.expireReflog(0, a));
            Due.is("the others stay", a == 0 ? 0 : a - 1, () -> x.reflog(0));
            if (a > 1) {
                Due.is("the newest first", x.head(0), () -> x.reflogCommit(0, 0));
            }
        }
        Due.is("of an empty reflog", 0, () -> Scenes.empty().expireReflog(0, 0));
        Due.is("the greatest age", 0, () -> Scenes.ends().expireReflog(0, 9999));
    }

    private static void danglings() {
        Edge.says("part 9", "An object is dangling, if it is not reached, and is no part of an object that is present.");
        VersionWorks x = side();
        int object = x.branchAt(0, 1);
        Due.is("none", 0, () -> x.dangling(0));
        x.deleteBranch(0, 1, true);
        x.expireReflog(0, 0);
        Due.is("the commit alone", 1, () -> x.dangling(0));
        Due.is("it", object, () -> x.danglingAt(0, 0));
        int tag = x.annotate(0, 0, object, 1);
        x.deleteTag(0, 0);
        Due.is("the tag object, not its commit", 1, () -> x.dangling(0));
        Due.is("it", tag, () -> x.danglingAt(0, 0));
        x.write(0, 9, 9);
        int blob = x.add(0, 9);
        Due.is("an entry is reached", 1, () -> x.dangling(0));
        x.unstage(0, 9);
        Due.is("by rising numbers", 2, () -> x.dangling(0));
        Due.is("the first", tag, () -> x.danglingAt(0, 0));
        Due.is("the last", blob, () -> x.danglingAt(0, 1));
        Due.index("behind the last", () -> x.danglingAt(0, 2));
        x.collect(0, 0);
        Due.is("collected ones do not dangle", 0, () -> x.dangling(0));
    }

    // ---- packs

    private static int blob(VersionWorks x, int... lines) {
        x.write(0, 15, 0);
        for (int k = 0; k < lines.length; k++) {
            x.insertLine(0, 15, k, lines[k]);
        }
        return x.add(0, 15);
    }

    private static int[] run(int from, int count) {
        int[] out = new int[count];
        for (int k = 0; k < count; k++) {
            out[k] = from + k;
        }
        return out;
    }

    private static int cost(int[] base, int[] lines) {
        VersionWorks x = new VersionWorks();
        return x.deltaCost(0, blob(x, base), blob(x, lines));
    }

    private static void costs() {
        Edge.says("part 9", "Whole, a blob costs 2 and its number of lines, together; a tree 6, a commit 8, a tag object 5.");
        VersionWorks x = new VersionWorks();
        blob(x);
        Due.is("a blob without lines", 2, () -> x.packSize(0));
        blob(x, run(1, 60));
        Due.is("a blob of 60 lines", 2 + 62, () -> x.packSize(0));
        x.commit(0, 1, 1);
        Due.is("two trees and a commit", 64 + 6 + 6 + 8, () -> x.packSize(0));
        x.annotate(0, 0, x.head(0), 1);
        Due.is("a tag object", 84 + 5, () -> x.packSize(0));
        x.collect(0, 0);
        Due.is("without the blob that is collected", 87, () -> x.packSize(0));
        Edge.says("part 9", "A delta costs 3, 2 for each copy, 1 for each line that is in no pair, and 1 for each longest run of such "
                + "lines that stand one behind another.");
        int[] eight = run(1, 8);
        Due.same("no lines", 3, cost(eight, new int[0]));
        Due.same("no lines out of none", 3, cost(new int[0], new int[0]));
        Due.same("one copy", 5, cost(eight, eight));
        Due.same("one copy of a part", 5, cost(eight, run(3, 4)));
        Due.same("one copy of one line", 5, cost(eight, run(8, 1)));
        Due.same("three lines, one run", 7, cost(eight, run(20, 3)));
        Due.same("three lines out of none", 7, cost(new int[0], run(1, 3)));
        Due.same("a copy, then a line", 7, cost(eight, run(1, 9)));
        Due.same("a line, then a copy", 7, cost(run(2, 8), run(1, 9)));
        Edge.says("part 9", "A copy is a longest run of lines of the blob that stand one behind another, are in pairs, and whose "
                + "partners stand one behind another in the base.");
        Due.same("a line between: two copies", 9, cost(eight, new int[] {1, 2, 3, 9, 4, 5, 6, 7, 8}));
        Due.same("partners not next to each other: two copies", 7, cost(eight, new int[] {1, 2, 3, 5, 6, 7, 8}));
        Due.same("each line a copy", 11, cost(eight, new int[] {1, 3, 5, 7}));
        Due.same("three lines in two runs, two copies", 12, cost(new int[] {1, 2}, new int[] {9, 1, 9, 9, 2}));
    }

    private static void orders() {
        Edge.says("part 9", "the blobs one by one, those with most lines first, of like ones those with greater numbers first");
        VersionWorks x = new VersionWorks();
        int first = blob(x, 1, 2, 3, 4, 5, 6, 7, 8);
        int second = blob(x, 1, 2, 3, 4, 5, 6, 7, 9);
        int longer = blob(x, 1, 2, 3, 4, 5, 6, 7, 9, 8);
        x.pack(0, 8, 8);
        Due.is("most lines first", NONE, () -> x.packBase(0, longer));
        Due.is("then the greater number", longer, () -> x.packBase(0, second));
        VersionWorks y = new VersionWorks();
        int one = blob(y, 1, 2, 3, 4, 5, 6, 7, 8);
        int two = blob(y, 1, 2, 3, 4, 5, 6, 7, 9);
        y.pack(0, 1, 1);
        Due.is("the greater number first", NONE, () -> y.packBase(0, two));
        Due.is("the other one out of it", two, () -> y.packBase(0, one));
        Due.yes("first", first >= 0);
        Edge.says("part 9", "packs all objects that are present, in place of what was packed before");
        y.pack(0, 0, 8);
        Due.is("whole now", NONE, () -> y.packBase(0, one));
        Due.is("packed all the same", 1, () -> Edge.yes(y.isPacked(0, one)));
        Edge.says("part 9", "Each object is loose, until it is packed; to store it again does not change that.");
        VersionWorks z = Scenes.ends();
        for (int object : new int[] {Scenes.BLOB, Scenes.TREE, ROOT, Scenes.TAGGED}) {
            Due.is("loose", 0, () -> Edge.yes(z.isPacked(0, object)));
        }
        z.pack(0, 0, 0);
        for (int object : new int[] {Scenes.BLOB, Scenes.TREE, ROOT, Scenes.TAGGED}) {
            Due.is("packed", 1, () -> Edge.yes(z.isPacked(0, object)));
        }
        z.amend(0, 9, 99);
        Due.is("stored again", 1, () -> Edge.yes(z.isPacked(0, TOP)));
        z.amend(0, 9, 98);
        Due.is("stored since", 0, () -> Edge.yes(z.isPacked(0, z.head(0))));
        Due.is("its tree was packed", 1, () -> Edge.yes(z.isPacked(0, z.rootTree(0, z.head(0)))));
    }

    /** Blobs of 20, 19, 18 lines and so on: each but the first other lines, the last the first 12 lines of the first. */
    private static VersionWorks windowed(int between) {
        VersionWorks x = new VersionWorks();
        blob(x, run(1, 20));
        for (int k = 0; k < between; k++) {
            int[] other = new int[19 - k];
            java.util.Arrays.fill(other, 50 + k);
            blob(x, other);
        }
        blob(x, run(1, 12));
        return x;
    }

    private static void windows() {
        Edge.says("part 9", "the last ones packed ahead of it are looked at, as many as the window (or all, if there are fewer)");
        for (int between = 0; between <= 7; between++) {
            int b = between;
            Due.is("just in the window", 0, () -> {
                VersionWorks x = windowed(b);
                x.pack(0, b + 1, 1);
                return x.packBase(0, b + 1);
            });
            Due.is("just out of the window", NONE, () -> {
                VersionWorks x = windowed(b);
                x.pack(0, b, 1);
                return x.packBase(0, b + 1);
            });
        }
        Due.is("fewer than the window", NONE, () -> {
            VersionWorks x = windowed(0);
            x.pack(0, 8, 8);
            return x.packBase(0, 0);
        });
        Due.is("none at all", 0, () -> Scenes.empty().pack(0, 8, 8));
    }

    private static void depths() {
        Edge.says("part 9", "of these, those whose depth is below the depth told are tried as its base");
        Edge.says("part 9", "The depth of a blob is 0, if it is loose or packed whole, otherwise 1 more than that of its base.");
        for (int depth = 0; depth <= 8; depth++) {
            VersionWorks x = new VersionWorks();
            for (int k = 0; k < 12; k++) {
                blob(x, run(1, 30 - k));
            }
            int d = depth;
            for (int k = 0; k < 12; k++) {
                int each = k;
                Due.is("loose", 0, () -> x.packDepth(0, each));
            }
            x.pack(0, 1, d);
            for (int k = 0; k < 12; k++) {
                int each = k;
                // By a window of 1 each is made out of the one ahead of it, till the depth is come to; then one is whole.
                Due.is("depth " + d, k % (d + 1), () -> x.packDepth(0, each));
                Due.is("base by depth " + d, k % (d + 1) == 0 ? NONE : k - 1, () -> x.packBase(0, each));
            }
            for (int k = 0; k < 19; k++) {
                int place = k;
                Due.is("read through all bases", 1 + k, () -> x.packedLine(0, 11, place));
            }
            Due.index("behind the last line", () -> x.packedLine(0, 11, 19));
            // One that is too deep is looked at, but not tried; one of those behind it in the window is.
            VersionWorks y = new VersionWorks();
            for (int k = 0; k < 12; k++) {
                blob(y, run(1, 30 - k));
            }
            y.pack(0, 2, d);
            Due.yes("no deeper", y.packDepth(0, 11) <= d);
        }
        Due.is("out of one that is tried in place of the last one", 0, () -> {
            VersionWorks x = new VersionWorks();
            for (int k = 0; k < 3; k++) {
                blob(x, run(1, 30 - k));
            }
            x.pack(0, 2, 1);
            return x.packBase(0, 2);
        });
    }

    private static void cheapest() {
        Edge.says("part 9", "If the cheapest delta of these (of several, that from the one packed last) is cheaper than the blob whole, "
                + "the blob is packed as that delta; otherwise it is packed whole.");
        for (int lines = 1; lines <= 5; lines++) {
            VersionWorks x = new VersionWorks();
            blob(x, run(1, 9));
            int blob = blob(x, run(1, lines));
            x.pack(0, 8, 8);
            Due.is("5 for " + lines + " lines and 2", lines > 3 ? 0 : NONE, () -> x.packBase(0, blob));
            Due.is("the cost", 11 + Math.min(5, lines + 2), () -> x.packSize(0));
        }
        VersionWorks x = new VersionWorks();
        blob(x, run(1, 12));
        blob(x, run(1, 11));
        int tie = blob(x, run(1, 10));
        x.pack(0, 8, 8);
        Due.is("both cost 5: that from the one packed last", 1, () -> x.packBase(0, tie));
        VersionWorks y = new VersionWorks();
        blob(y, run(1, 12));
        blob(y, 1, 2, 3, 4, 5, 60, 61, 62, 63, 64, 65);
        int less = blob(y, run(1, 10));
        y.pack(0, 8, 8);
        Due.is("the cheapest, though not packed last", 0, () -> y.packBase(0, less));
        VersionWorks z = new VersionWorks();
        blob(z);
        z.write(0, 14, 1);
        z.add(0, 14);
        Due.is("blobs without lines and of one line are whole", 2 + 3, () -> z.pack(0, 8, 8));
    }

    private static void loosened() {
        Edge.says("part 9", "When an object is collected, the blobs of which it is the base are loose from then on.");
        VersionWorks x = new VersionWorks();
        int[] blobs = new int[4];
        for (int k = 0; k < 4; k++) {
            x.write(0, k, 0);
            for (int m = 0; m < 30 - k; m++) {
                x.insertLine(0, k, m, m + 1);
            }
            blobs[k] = x.add(0, k);
        }
        x.pack(0, 1, 8);
        x.unstage(0, 0);
        Due.is("depth", 3, () -> x.packDepth(0, blobs[3]));
        Due.is("the first is collected", 1, () -> x.collect(0, 0));
        Due.is("the second is loose", 0, () -> Edge.yes(x.isPacked(0, blobs[1])));
        Due.is("without a base", NONE, () -> x.packBase(0, blobs[1]));
        Due.is("the third is packed", 1, () -> Edge.yes(x.isPacked(0, blobs[2])));
        Due.is("out of the second", blobs[1], () -> x.packBase(0, blobs[2]));
        Due.is("its depth", 1, () -> x.packDepth(0, blobs[2]));
        Due.is("the depth behind it", 2, () -> x.packDepth(0, blobs[3]));
        Due.is("what they cost", 31 + 5 + 5, () -> x.packSize(0));
        Due.is("read", 27, () -> x.packedLine(0, blobs[3], 26));
        Due.is("sound", 1, () -> Edge.yes(x.isSound(0, 9)));
    }

    // ---- bisections

    private static int[] commits(VersionWorks x, int length) {
        int[] out = new int[length + 1];
        for (int k = length, at = x.head(0); k >= 1; k--) {
            out[k] = at;
            at = x.parent(0, at, 0);
        }
        return out;
    }

    private static void lefts() {
        Edge.says("part 10", "Left are the ancestors of the bad commit that are ancestors of no good one; the bad commit is always among "
                + "them. The culprit is known, if one commit alone is left: that is it.");
        VersionWorks x = Scenes.line(9);
        int[] c = commits(x, 9);
        Due.is("the good one is its parent", 1, () -> x.bisectStart(0, c[9], c[8]));
        Due.is("known at once", c[9], () -> x.culprit(0));
        Due.is("it alone", c[9], () -> x.leftAt(0, 0));
        Due.index("no other", () -> x.leftAt(0, 1));
        Due.is("nothing to test", NONE, () -> x.nextTest(0));
        Due.is("no tests", 0, () -> x.tests(0));
        Due.is("it is left, so it may be bad again", 1, () -> x.bisectBad(0, c[9]));
        Due.state("good would be the bad one", () -> x.bisectGood(0, c[9]));
        Due.is("end", 1, () -> x.bisectEnd(0));
        VersionWorks y = Scenes.ends();
        Due.is("a good one beside", 1, () -> y.bisectStart(0, TOP, SIDE));
        Due.is("the common ancestor is not left", TOP, () -> y.culprit(0));
        VersionWorks z = Scenes.unborn();
        int apart = z.commit(0, 1, 1);
        Due.is("a good one without a common ancestor", 2, () -> z.bisectStart(0, TOP, apart));
        Due.is("not known", NONE, () -> z.culprit(0));
        Due.is("newest first", TOP, () -> z.leftAt(0, 0));
        Due.is("then the root", ROOT, () -> z.leftAt(0, 1));
        Due.is("more good ones stay good, though the bad one is another", 1, () -> {
            z.bisectGood(0, SIDE);
            return z.left(0);
        });
    }

    private static void weights() {
        Edge.says("part 10", "The weight of a commit that is left is how many of those left are ancestors of it.");
        VersionWorks x = Scenes.line(9);
        int[] c = commits(x, 9);
        x.bisectStart(0, c[9], c[1]);
        for (int k = 2; k <= 9; k++) {
            int each = k;
            Due.is("weight", k - 1, () -> x.weight(0, c[each]));
        }
        Due.state("not left", () -> x.weight(0, c[1]));
        Edge.says("part 10", "the one for which the lesser of its weight, and of how many are left less its weight, is greatest; of "
                + "several the one with the lowest number. There may be none.");
        // Of n that are left in a row, the one that is tested, by its place from the oldest: 0 for none.
        int[] due = {0, 0, 1, 1, 2, 2, 3, 3, 4};
        for (int n = 1; n <= 8; n++) {
            VersionWorks y = Scenes.line(9);
            int last = n;
            y.bisectStart(0, c[n + 1], c[1]);
            Due.is("of " + n, due[n] == 0 ? NONE : c[1 + due[n]], () -> y.nextTest(0));
            Due.is("left", last, () -> y.left(0));
        }
    }

    private static void searches() {
        Edge.says("part 10", "A search is a bisection gone on with, as if nothing was skipped, as long as more than one commit is left");
        Edge.says("part 10", "The search for a commit that is left finds each commit bad that has it as an ancestor, and each other one "
                + "good; it ends with just this commit left.");
        // Of n that are left in a row, how many tests at the most: by the halves of weights() these.
        int[] due = {0, 0, 1, 2, 2, 3, 3, 3, 3};
        for (int n = 1; n <= 8; n++) {
            VersionWorks x = Scenes.line(9);
            int[] c = commits(x, 9);
            x.bisectStart(0, c[n + 1], c[1]);
            Due.is("tests of " + n, due[n], () -> x.tests(0));
            int most = 0;
            for (int k = 2; k <= n + 1; k++) {
                most = Math.max(most, x.testsFor(0, c[k]));
                int culprit = k;
                Due.is("the search is the bisection", walked(x, c[k]), () -> x.testsFor(0, c[culprit]));
            }
            Due.same("the greatest", due[n], most);
            x.bisectSkip(0, c[2]);
            Due.is("as if nothing was skipped", due[n], () -> x.tests(0));
        }
    }

    /** The tests of a bisection that is gone on with on an object of its own, till the culprit is known. */
    private static int walked(VersionWorks like, int culprit) {
        VersionWorks x = Scenes.line(9);
        int[] c = commits(x, 9);
        x.bisectStart(0, like.leftAt(0, 0), c[1]);
        int tests = 0;
        while (x.culprit(0) == NONE && tests < 20) {
            int next = x.nextTest(0);
            if (x.isAncestor(0, culprit, next)) {
                x.bisectBad(0, next);
            } else {
                x.bisectGood(0, next);
            }
            tests++;
        }
        Due.is("it ends with just this commit", culprit, () -> x.culprit(0));
        return tests;
    }

    private static void skipped() {
        Edge.says("part 10", "The next commit to test is, of those left that are not the bad commit and not skipped");
        VersionWorks x = Scenes.line(9);
        int[] c = commits(x, 9);
        x.bisectStart(0, c[4], c[1]);
        Due.is("of 2, 3 and the bad one", c[2], () -> x.nextTest(0));
        Due.is("skipped", 1, () -> x.bisectSkip(0, c[2]));
        Due.is("the other", c[3], () -> x.nextTest(0));
        Due.is("skipped again: still one", 1, () -> x.bisectSkip(0, c[2]));
        Due.is("skipped", 2, () -> x.bisectSkip(0, c[3]));
        Due.is("none", NONE, () -> x.nextTest(0));
        Due.is("the bad one is skipped, too", 3, () -> x.bisectSkip(0, c[4]));
        Due.is("still left", 3, () -> x.left(0));
        Due.is("not known", NONE, () -> x.culprit(0));
        Due.is("a skipped one may be bad", 2, () -> x.bisectBad(0, c[3]));
        Due.is("a skipped one may be good", 1, () -> x.bisectGood(0, c[2]));
        Due.is("known", c[3], () -> x.culprit(0));
        Due.is("end", 1, () -> x.bisectEnd(0));
        Due.is("a new one has nothing skipped", 3, () -> x.bisectStart(0, c[4], c[1]));
        Due.is("of 2, 3 and the bad one", c[2], () -> x.nextTest(0));
        Due.is("none was skipped", 1, () -> x.bisectSkip(0, c[3]));
    }

    // ---- stashes

    private static void stashed() {
        Edge.says("part 11", "that of the index has the head commit as its parent; that of the files has the head commit and that of the "
                + "index as its parents, in this order. The stash is the commit of the files.");
        Edge.says("part 11", "then, for each path that is tracked, by rising numbers, the file, if there is one, as a blob, the snapshot of "
                + "these (it has no others)");
        VersionWorks x = Scenes.ends();
        x.write(0, 0, 5);
        x.add(0, 0);
        x.write(0, 0, 6);
        x.removeFile(0, 15);
        x.write(0, 1, 7);
        x.add(0, 1);
        x.removeFile(0, 1);
        x.tick(0, 3);
        int entries = x.reflog(0);
        int stash = x.stashPush(0, 7, 77);
        int index = x.parent(0, stash, 1);
        Due.is("the head commit", TOP, () -> x.parent(0, stash, 0));
        Due.is("of the index: the head commit", TOP, () -> x.parent(0, index, 0));
        Due.is("of the index: no other", NONE, () -> x.parent(0, index, 1));
        Due.is("the index", 5, () -> x.blobLine(0, x.blobAt(0, index, 0), 0));
        Due.is("the file", 6, () -> x.blobLine(0, x.blobAt(0, stash, 0), 0));
        Due.is("the index, without a file", 6, () -> x.blobLines(0, x.blobAt(0, index, 15)));
        Due.is("no file", NONE, () -> x.blobAt(0, stash, 15));
        Due.is("added, without a file", 7, () -> x.blobLine(0, x.blobAt(0, index, 1), 0));
        Due.is("no file", NONE, () -> x.blobAt(0, stash, 1));
        Due.is("a file that is not tracked", NONE, () -> x.blobAt(0, stash, 11));
        Edge.says("part 11", "Both have the author and the message told. Then the index and the files are forced to the head snapshot. "
                + "HEAD is not moved.");
        for (int each : new int[] {stash, index}) {
            Due.is("the author", 7, () -> x.author(0, each));
            Due.is("the message", 77, () -> x.message(0, each));
            Due.is("the clock", 3, () -> x.date(0, each));
        }
        for (int path = 0; path < 16; path++) {
            int p = path;
            Due.is("forced", 0, () -> x.staged(0, p));
            Due.is("forced", p == 11 ? 1 : 0, () -> x.unstaged(0, p));
        }
        Due.is("HEAD is not moved", entries, () -> x.reflog(0));
        VersionWorks y = Scenes.ends();
        for (int path : new int[] {0, 7, 15}) {
            y.removeFile(0, path);
        }
        Due.is("a stash without any file", 0, () -> y.changed(0, NONE, y.stashPush(0, 0, 0)));
        VersionWorks z = Scenes.ends();
        for (int path : new int[] {0, 7, 15}) {
            z.removeFile(0, path);
            z.add(0, path);
            z.write(0, path, 3);
        }
        Due.is("a file that is not tracked any more is no part of it", 0, () -> z.changed(0, NONE, z.stashPush(0, 0, 0)));
        Due.is("but forced, as the head snapshot has it", 6, () -> z.fileLines(0, 0));
    }

    private static void stashRows() {
        Edge.says("part 11", "There are at most 6, in a row; 0 is the newest one.");
        VersionWorks x = Scenes.line(1);
        for (int k = 1; k <= 6; k++) {
            x.write(0, 0, 90 + k);
            int made = x.stashPush(0, 0, k);
            int due = k;
            Due.is("so many", due, () -> x.stashes(0));
            Due.is("0 is the newest", made, () -> x.stashAt(0, 0));
        }
        for (int k = 0; k < 6; k++) {
            int place = k;
            Due.is("newest first", 6 - k, () -> x.message(0, x.stashAt(0, place)));
        }
        Due.index("no seventh", () -> x.stashAt(0, 6));
        x.write(0, 0, 99);
        Due.state("no seventh", () -> x.stashPush(0, 0, 0));
        Due.is("the file stays", 2, () -> x.fileLines(0, 0));
        x.restore(0, 0);
        Due.is("the last is dropped", 1, () -> x.message(0, x.stashDrop(0, 5)));
        Due.is("one in the middle", 4, () -> x.message(0, x.stashDrop(0, 2)));
        Due.is("those behind it move up", 3, () -> x.message(0, x.stashAt(0, 2)));
        Due.is("the first", 6, () -> x.message(0, x.stashDrop(0, 0)));
        Due.is("three are left", 3, () -> x.stashes(0));
        x.write(0, 0, 99);
        Due.is("room for one more", 1, () -> x.stashPush(0, 0, 9) > 0 ? 1 : 0);
        Due.is("it is the newest", 9, () -> x.message(0, x.stashAt(0, 0)));
    }

    private static void applied() {
        Edge.says("part 11", "the base is the snapshot of its first parent, ours that of the index, theirs its own. As in a merge into the "
                + "head a path is touched, if there is a conflict, or the result is not what ours has");
        Edge.says("part 11", "without one, the file has the result, or is not there any more, and if the index has nothing there, and the "
                + "result is not nothing, the result is stored as a blob, which is the entry of the index");
        VersionWorks x = Scenes.ends();
        x.write(0, 0, 5);
        x.removeFile(0, 15);
        x.write(0, 1, 7);
        x.add(0, 1);
        x.write(0, 2, 0);
        x.add(0, 2);
        x.stashPush(0, 1, 1);
        x.tick(0, 3);
        Due.is("applied", 1, () -> Edge.yes(x.stashApply(0, 0, false)));
        Due.is("the file has the result", 5, () -> x.fileLine(0, 0, 0));
        Due.is("the index stays", 0, () -> x.staged(0, 0));
        Due.is("the file is not there any more", NONE, () -> x.fileLines(0, 15));
        Due.is("the index stays", 0, () -> x.staged(0, 15));
        Due.is("the index had nothing: it has the result", 1, () -> x.staged(0, 1));
        Due.is("stored", 3, () -> x.stamp(0, x.indexed(0, 1)));
        Due.is("a file without lines as well", 0, () -> x.blobLines(0, x.indexed(0, 2)));
        Due.is("not stored where the index has an entry", 0, () -> x.stamp(0, x.blobAt(0, x.stashAt(0, 0), 0)));
        Due.state("again: the files are not as the index", () -> Edge.yes(x.stashApply(0, 0, false)));
        Edge.says("part 11", "with a conflict, the index has a conflict with the blobs of base, ours and theirs as its stages (none for "
                + "nothing; nothing is stored), and the file has the lines left");
        VersionWorks y = Scenes.ends();
        y.write(0, 0, 5);
        y.removeFile(0, 15);
        y.write(0, 1, 7);
        y.add(0, 1);
        int stash = y.stashPush(0, 1, 1);
        y.write(0, 0, 6);
        y.write(0, 15, 8);
        y.write(0, 1, 9);
        y.addAll(0);
        int[] ours = {y.indexed(0, 0), y.indexed(0, 15), y.indexed(0, 1)};
        int objects = y.objects(0);
        y.tick(0, 3);
        Due.is("conflicts", 0, () -> Edge.yes(y.stashApply(0, 0, false)));
        int[] paths = {0, 15, 1};
        for (int k = 0; k < 3; k++) {
            int path = paths[k];
            Due.is("the base", y.blobAt(0, TOP, path), () -> y.stage(0, path, 0));
            Due.is("ours, of the index", ours[k], () -> y.stage(0, path, 1));
            Due.is("theirs", y.blobAt(0, stash, path), () -> y.stage(0, path, 2));
        }
        Due.is("nothing is stored", objects, () -> y.objects(0));
        Due.is("not anew either", 0, () -> y.stamp(0, y.stage(0, 0, 0)));
        Due.is("left are the marks", 5, () -> y.fileLines(0, 0));
        Due.is("left are the lines of ours, where theirs has nothing", 8, () -> y.fileLine(0, 15, 0));
        Due.is("no operation is in progress", 0, () -> y.operation(0));
        // The index has what the stash has: nothing is touched, whatever the file is.
        VersionWorks z = Scenes.ends();
        z.write(0, 0, 5);
        z.stashPush(0, 1, 1);
        z.write(0, 0, 5);
        z.add(0, 0);
        z.write(0, 0, 4);
        Due.is("not touched, so not in the way", 1, () -> Edge.yes(z.stashApply(0, 0, false)));
        Due.is("the file stays", 4, () -> z.fileLine(0, 0, 0));
        VersionWorks w = Scenes.ends();
        w.write(0, 0, 5);
        w.stashPush(0, 1, 1);
        w.startBranch(0, 1);
        for (int path : new int[] {0, 7, 15}) {
            w.removeFile(0, path);
            w.add(0, path);
        }
        Due.is("without a head commit; the index has nothing, the stash another: a conflict", 0,
                () -> Edge.yes(w.stashApply(0, 0, false)));
        Due.is("ours is none", NONE, () -> w.stage(0, 0, 1));
        Due.is("where the stash has what the base has, nothing stays", NONE, () -> w.fileLines(0, 15));
    }

    private static void appliedWithTheIndex() {
        Edge.says("part 11", "also where the index does not become another, the index has the result of the merge with the second parent as "
                + "theirs, stored as a blob, or nothing, if it is nothing");
        VersionWorks x = Scenes.ends();
        x.write(0, 0, 5);
        x.add(0, 0);
        x.write(0, 0, 6);
        x.removeFile(0, 15);
        x.add(0, 15);
        x.write(0, 1, 7);
        x.add(0, 1);
        x.removeFile(0, 1);
        x.stashPush(0, 1, 1);
        x.tick(0, 3);
        Due.is("applied", 1, () -> Edge.yes(x.stashApply(0, 0, true)));
        Due.is("the index of the stash", 5, () -> x.blobLine(0, x.indexed(0, 0), 0));
        Due.is("the file of the stash", 6, () -> x.fileLine(0, 0, 0));
        Due.is("nothing", NONE, () -> x.indexed(0, 15));
        Due.is("no file", NONE, () -> x.fileLines(0, 15));
        Due.is("added in the index", 7, () -> x.blobLine(0, x.indexed(0, 1), 0));
        Due.is("without a file", NONE, () -> x.fileLines(0, 1));
        Due.is("stored anew, also where the index does not become another", 3, () -> x.stamp(0, x.indexed(0, 7)));
        VersionWorks without = Scenes.ends();
        without.write(0, 0, 6);
        without.stashPush(0, 1, 1);
        without.tick(0, 3);
        without.stashApply(0, 0, false);
        Due.is("without the index told it is not", 0, () -> without.stamp(0, without.indexed(0, 7)));
        Edge.says("part 11", "at each path at which the merge with the stash itself as theirs has no conflict");
        VersionWorks y = Scenes.ends();
        y.write(0, 0, 5);
        y.stashPush(0, 1, 1);
        y.write(0, 0, 6);
        y.add(0, 0);
        Due.is("the files conflict, the index does not", 0, () -> Edge.yes(y.stashApply(0, 0, true)));
        Due.is("the conflict stays", 4, () -> y.staged(0, 0));
        Edge.says("part 11", "this must have no conflict");
        VersionWorks z = Scenes.ends();
        z.write(0, 0, 5);
        z.add(0, 0);
        z.write(0, 0, 123459);
        z.stashPush(0, 1, 1);
        z.write(0, 0, 6);
        z.add(0, 0);
        Due.state("the index conflicts, the files do not", () -> Edge.yes(z.stashApply(0, 0, true)));
        Due.is("without the index", 1, () -> Edge.yes(z.stashApply(0, 0, false)));
    }

    // ---- the rehearsal

    private static long chance;

    private static int lot(int n) {
        chance = (25173 * chance + 13849) % 65536;
        return (int) (chance / 16 % n);
    }

    private static int call(Edge.Act act, VersionWorks x) {
        return Due.told(() -> act.on(x)).endsWith("Exception") ? 0 : 1;
    }

    /** The same as rehearse(), by the calls that anybody could make. */
    private static int rehearse(VersionWorks x, int r, int seed, int steps) {
        chance = seed;
        int calls = 0;
        for (int step = 0; step < steps; step++) {
            calls += x.operation(r) != 0 ? solve(x, r) : step(x, r, lot(12));
        }
        return calls;
    }

    private static int solve(VersionWorks x, int r) {
        int calls = 0;
        for (int p = 0; p < 16; p++) {
            int path = p;
            if (x.staged(r, p) == 4) {
                int stage = lot(2) + 1;
                calls += call(y -> y.takeStage(r, path, stage), x) + call(y -> y.add(r, path), x);
            }
        }
        return calls + call(y -> y.proceed(r), x);
    }

    private static int step(VersionWorks x, int r, int what) {
        if (what <= 2) {
            int path = 5 * lot(4);
            int lines = x.fileLines(r, path);
            if (lines == NONE) {
                long digits = 1000 * (lot(9) + 1) + 100 * (lot(9) + 1) + 10 * (lot(9) + 1) + lot(9) + 1;
                return call(y -> y.write(r, path, digits), x);
            }
            int place = lot(lines + 1);
            int line = lot(9) + 1;
            return call(y -> y.insertLine(r, path, place, line), x);
        }
        if (what == 3) {
            int path = 5 * lot(4);
            int lines = x.fileLines(r, path);
            int place = lines > 0 ? lot(lines) : 0;
            return lines > 0 ? call(y -> y.deleteLine(r, path, place), x) : 0;
        }
        if (what <= 5) {
            int calls = call(y -> y.addAll(r), x);
            int author = lot(10);
            int message = lot(100);
            return calls + call(y -> y.commit(r, author, message), x);
        }
        if (what == 6) {
            int branch = lot(3);
            boolean makes = x.branchAt(r, branch) == NONE && x.head(r) != NONE;
            int calls = makes ? call(y -> y.branch(r, branch, y.head(r)), x) : 0;
            return calls + call(y -> y.switchTo(r, branch), x);
        }
        if (what == 8) {
            int n = lot(9) + 1;
            return call(y -> y.tick(r, n), x);
        }
        if (what == 9) {
            int tag = lot(6);
            int message = lot(100);
            return x.head(r) == NONE ? 0 : call(y -> y.annotate(r, tag, y.head(r), message), x);
        }
        if (what == 11) {
            return call(y -> y.fetch(r, 240), x);
        }
        int number = lot(6);
        int commit = number < 3 ? x.branchAt(r, number) : x.trackAt(r, number - 3);
        if (commit == NONE) {
            return 0;
        }
        if (what == 10) {
            return call(y -> y.cherryPick(r, commit, y.parent(r, commit, 1) == NONE ? 0 : 1, 0), x);
        }
        int author = lot(10);
        int message = lot(100);
        return call(y -> y.merge(r, commit, 0, 0, author, message), x);
    }

    private static void rehearsed() {
        Edge.says("part 12", "Each step calls methods above, for this repository, as anybody could; a call that would throw is left out, and "
                + "the step goes on behind it. Lots are drawn in the order told, also for a call that is left out.");
        Edge.Scene[] scenes = {Scenes::empty, Scenes::ends, Scenes::unborn, Scenes::stopped, Scenes::rebasing, Scenes::clashed,
            Scenes::picking, () -> Scenes.full(Scenes::ends, 0, 9), () -> Scenes.full(Scenes::ends, 0, 0), Scenes::bare};
        for (int seed = 0; seed < 65536; seed += seed < 40 ? 1 : 997) {
            Edge.Scene scene = scenes[seed % scenes.length];
            VersionWorks x = scene.make();
            VersionWorks y = scene.make();
            for (int k = 0; k < 4; k++) {
                int repo = k / 2;
                int steps = k == 0 ? 1 : k == 1 ? 40 : 20;
                int s = seed;
                Due.is("seed " + seed, rehearse(x, repo, seed, steps), () -> y.rehearse(repo, s, steps));
                Due.same("seed " + seed + ": the same state", "", Whole.difference(Whole.of(x), Whole.of(y)));
            }
        }
        few(0);
        few(1);
        ofMerges();
        Edge.says("part 12", "By a seed, x is that seed first");
        int s = 65535;
        VersionWorks x = Scenes.empty();
        VersionWorks y = Scenes.empty();
        Due.is("the last seed", rehearse(x, 1, s, 40), () -> y.rehearse(1, s, 40));
        Due.same("the same state", "", Whole.difference(Whole.of(x), Whole.of(y)));
        Edge.says("part 0", "Chance plays no part but in rehearse() (part 12), by a seed that it is told");
        VersionWorks z = Scenes.empty();
        z.rehearse(1, s, 40);
        Due.same("again", "", Whole.difference(Whole.of(z), Whole.of(y)));
        // Rows of 60 lines and the last time: what would throw is left out.
        VersionWorks v = Scenes.ends();
        VersionWorks w = Scenes.ends();
        for (VersionWorks each : new VersionWorks[] {v, w}) {
            for (int path = 0; path <= 15; path += 5) {
                each.write(0, path, 1);
                for (int k = 1; k < 60; k++) {
                    each.insertLine(0, path, k, 1 + k % 9);
                }
            }
            for (int k = 0; k < 10; k++) {
                each.tick(0, 999);
            }
            each.tick(0, 7);
        }
        for (int seed = 1; seed < 20; seed++) {
            int t = seed;
            Due.is("with what throws left out", rehearse(v, 0, seed, 40), () -> w.rehearse(0, t, 40));
            Due.same("the same state", "", Whole.difference(Whole.of(v), Whole.of(w)));
        }
    }

    /** Files without lines, or of one line: there is no line to delete, or just the one. */
    private static void few(int lines) {
        Edge.says("part 12", "If there is a file with a line: a lot of how many lines it has, and deleteLine().");
        for (int seed = 0; seed < 300; seed++) {
            VersionWorks x = new VersionWorks();
            VersionWorks y = new VersionWorks();
            for (VersionWorks each : new VersionWorks[] {x, y}) {
                for (int path = 0; path <= 15; path += 5) {
                    each.write(0, path, lines);
                }
            }
            int s = seed * 211;
            Due.is("seed " + s, rehearse(x, 0, s, 3), () -> y.rehearse(0, s, 3));
            Due.same("seed " + s + ": the same state", "", Whole.difference(Whole.of(x), Whole.of(y)));
        }
    }

    /** Branches at merges, of which a cherry-pick has the first parent as its base. */
    private static void ofMerges() {
        Edge.says("part 12", "cherryPick() of its commit, by its first parent if it has two, without a favour");
        for (int seed = 0; seed < 300; seed++) {
            VersionWorks x = merged();
            VersionWorks y = merged();
            int s = seed * 211;
            Due.is("seed " + s, rehearse(x, 0, s, 3), () -> y.rehearse(0, s, 3));
            Due.same("seed " + s + ": the same state", "", Whole.difference(Whole.of(x), Whole.of(y)));
        }
    }

    private static VersionWorks merged() {
        VersionWorks x = Scenes.ends();
        x.merge(0, SIDE, 0, 2, 0, 0);
        int made = x.head(0);
        x.moveBranch(0, 0, made);
        x.branch(0, 1, made);
        x.reset(0, TOP, 2);
        x.detach(0, TOP);
        x.moveBranch(0, 2, made);
        return x;
    }
}
