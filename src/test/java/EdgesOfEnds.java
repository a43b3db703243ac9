import java.util.Random;

/**
 * The ends of rows: the first and the last path, ref and object, a repository that is full of commits, long rows; and that no
 * call answers by what an earlier one was about.
 */
final class EdgesOfEnds {
    private static final int NONE = VersionWorks.NONE;
    private static final int ROOT = Scenes.ROOT;
    private static final int TOP = Scenes.TOP;
    private static final int SIDE = Scenes.SIDE;

    public static void main(String[] args) {
        fullOfCommits();
        fullTransfers();
        firstAndLastPaths();
        firstAndLastPathsOfActs();
        firstAndLastRefs();
        firstAndLastObjects();
        basesBelowMerges();
        secondParentsInLists();
        blankIndexes();
        conflictsThatAreOver();
        stepsThatAreUndone();
        undoneStarts();
        differencesOfAll();
        oneAfterAnother();
        renamesAfterRenames();
        originsOfSecondParents();
        longStretches();
        changesOfCommonOnes();
        describedByDates();
        fastForwards();
        pickedLines();
        otherNumbers();
        transfersAfterTransfers();
        danglingAgain();
        packsOfSixty();
        whatIsAsked();
        backwards();
        Edge.end("EdgesOfEnds");
    }

    private static int commit(VersionWorks x, int path, long digits, int message) {
        return Scenes.commit(x, 0, path, digits, message);
    }

    private static void put(VersionWorks x, int path, int... lines) {
        x.write(0, path, 0);
        for (int k = 0; k < lines.length; k++) {
            x.insertLine(0, path, k, lines[k]);
        }
        x.add(0, path);
    }

    private static String lines(VersionWorks x, int path) {
        StringBuilder out = new StringBuilder();
        for (int k = 0; k < x.fileLines(0, path); k++) {
            out.append(k == 0 ? "" : " ").append(x.fileLine(0, path, k));
        }
        return x.fileLines(0, path) == NONE ? "nothing" : out.toString();
    }

    // ---- full

    /** Sixty commits of four objects each, all 240 numbers, in a row; the last line of path 15 stays from the first on. */
    private static VersionWorks sixty() {
        VersionWorks x = new VersionWorks();
        for (int k = 1; k <= 60; k++) {
            put(x, 15, k, 99);
            x.commit(0, 0, k);
        }
        return x;
    }

    private static void fullOfCommits() {
        Edge.says("part 0", "A repository gets at most 240 object numbers ever");
        VersionWorks x = sixty();
        int last = x.head(0);
        int first = 3;
        Due.is("all numbers", 240, () -> x.objects(0));
        Due.is("the last commit is the last object", 239, () -> x.head(0));
        Due.is("all are reached", 240, () -> x.reached(0));
        Due.is("generation", 60, () -> x.generation(0, last));
        Due.is("ahead", 59, () -> x.ahead(0, last, first));
        Due.is("not ahead", 0, () -> x.ahead(0, first, last));
        Due.is("bases", 1, () -> x.bases(0, last, first));
        Due.is("base", first, () -> x.base(0, first, last, 0));
        Due.is("base, the other way", first, () -> x.base(0, last, first, 0));
        Due.is("ahead of one between", 20, () -> x.ahead(0, 119, 39));
        Due.is("not ahead of one between", 0, () -> x.ahead(0, 39, 119));
        Due.is("base of two between", 39, () -> x.base(0, 119, 39, 0));
        Scenes.typed(x, "H");
        Due.is("list", 60, () -> x.list(0));
        Due.is("the newest", last, () -> x.listed(0, 0));
        Due.is("the oldest", first, () -> x.listed(0, 59));
        Due.is("behind the oldest", NONE, () -> x.listed(0, 60));
        Scenes.typed(x, "H~59");
        Due.is("59 steps back", first, () -> x.resolve(0));
        Scenes.typed(x, "H~60");
        Due.state("60 steps back", () -> x.resolve(0));
        Scenes.typed(x, "H@29");
        Due.is("the last entry of the reflog", 31, () -> x.message(0, x.resolve(0)));
        Due.is("history of the path", 60, () -> x.pathLog(0, last, 15));
        Due.is("its oldest", first, () -> x.pathLogAt(0, last, 15, 59));
        Due.index("behind its oldest", () -> x.pathLogAt(0, last, 15, 60));
        Due.is("the origin of the last line, over 59 commits", first, () -> x.blame(0, last, 15, 1, 0));
        Due.is("the origin of the first line", last, () -> x.blame(0, last, 15, 0, 0));
        x.tag(0, 0, first);
        Due.is("described over 59 commits", 0, () -> x.describe(0, last));
        Due.is("left", 59, () -> x.bisectStart(0, last, first));
        Due.is("weight", 59, () -> x.weight(0, last));
        Due.is("next: 29 of 59", 30, () -> x.message(0, x.nextTest(0)));
        Due.is("tests", 6, () -> x.tests(0));
        Due.is("cost: 240 objects", 60 * (4 + 6 + 6 + 8), () -> x.packSize(0));
        Due.is("sound", 1, () -> Edge.yes(x.isSound(0, 0)));
        Due.state("no room for a tag object", () -> x.annotate(0, 1, last, 1));
        Due.state("no room for a commit", () -> x.amend(0, 9, 9));
        x.write(0, 0, 1);
        Due.state("no room for a blob", () -> x.add(0, 0));
        x.reset(0, first, 2);
        Due.is("back, without room", first, () -> x.head(0));
        Due.is("forward, without room", 1, () -> x.merge(0, last, 2, 0, 0, 0));
        Due.same("at the last commit", "60 99", lines(x, 15));
    }

    private static void fullTransfers() {
        Edge.says("fetch", "`limit`: how many objects may be sent, 1 to 240");
        VersionWorks x = sixty();
        Due.is("239 of 240", NONE, () -> x.fetch(1, 239));
        Due.is("all but the last commit", 239, () -> x.objects(1));
        Due.is("no track", NONE, () -> x.trackAt(1, 0));
        Due.is("the rest", 1, () -> x.fetch(1, 240));
        Due.is("four objects, of which three are doubles", 43, () -> 10 * x.sent() + x.doubles());
        // The newest of 59 that the receiver has is common, and so are all others.
        Due.is("one round", 1, () -> x.rounds());
        Due.is("the last number", 239, () -> x.trackAt(1, 0));
        VersionWorks y = sixty();
        Due.is("240 of 240", 1, () -> y.fetch(1, 240));
        Due.is("all came", 240, () -> y.sent());
        Due.is("into a full one, of which all is there", 0, () -> y.fetch(0, 240));
        VersionWorks z = sixty();
        Scenes.commit(z, 1, 0, 5, 5);
        Due.state("no room for all", () -> z.fetch(1, 240));
        Due.is("nothing came", 4, () -> z.objects(1));
        Due.state("no room here for one more commit", () -> z.fetch(0, 240));
        Due.state("no room there for one object", () -> z.push(1, 0, 1, 0, 1));
        VersionWorks w = sixty();
        Due.is("pushed to HEAD", 239, () -> w.push(0, 0, 0, 0, 240));
        Due.same("its file", w.fileLine(0, 15, 0), w.fileLine(1, 15, 0));
        // 59 commits that are not common are told in fifteen rounds; the four objects that come are the last there can be.
        VersionWorks v = new VersionWorks();
        for (int k = 1; k <= 59; k++) {
            put(v, 15, k, 99);
            v.commit(0, 0, k);
        }
        Scenes.commit(v, 1, 0, 5, 5);
        Due.is("just enough room", 1, () -> v.fetch(0, 240));
        Due.is("fifteen rounds", 15, () -> v.rounds());
        Due.is("all are told", 59, () -> v.told());
        Due.is("four objects", 4, () -> v.sent());
        Due.is("the last number", 239, () -> v.trackAt(0, 0));
        Edge.says("part 12", "11: fetch() with the limit 240.");
        int seed = 0;
        while ((25173 * seed + 13849) % 65536 / 16 % 12 != 11) {
            seed++;
        }
        int fetching = seed;
        VersionWorks u = sixty();
        Due.is("one call, of fetch", 1, () -> u.rehearse(1, fetching, 1));
        Due.is("240 objects", 240, () -> u.sent());
        Due.is("it came through", 239, () -> u.trackAt(1, 0));
    }

    // ---- the first and the last

    private static void firstAndLastPaths() {
        Edge.says("part 0", "A path is 0 to 15");
        VersionWorks x = Scenes.empty();
        for (int p = 0; p < 16; p++) {
            x.write(0, p, 11 + p % 9 + 20 * (p / 9));
        }
        Due.is("addAll", 16, () -> x.addAll(0));
        int made = x.commit(0, 0, 0);
        Due.is("all paths", 65535, () -> x.changed(0, NONE, made));
        for (int p = 0; p < 16; p++) {
            x.removeFile(0, p);
        }
        Due.is("clean has nothing", 0, () -> x.clean(0));
        Due.is("addAll without files", 16, () -> x.addAll(0));
        Due.is("a commit of nothing", 0, () -> x.changed(0, NONE, x.commit(0, 0, 1)));
        x.reset(0, made, 1);
        Due.is("a mixed reset gives the index all paths", 16, () -> {
            int count = 0;
            for (int p = 0; p < 16; p++) {
                count += x.indexed(0, p) == NONE || x.fileLines(0, p) != NONE ? 0 : 1;
            }
            return count;
        });
        x.reset(0, made, 2);
        for (int p = 0; p < 16; p++) {
            int path = p;
            Due.is("forced", 2, () -> x.fileLines(0, path));
        }
        VersionWorks y = Scenes.empty();
        for (int p = 0; p < 16; p++) {
            y.write(0, p, 0);
        }
        Due.is("clean", 16, () -> y.clean(0));
        for (int p : new int[] {0, 15}) {
            VersionWorks z = Scenes.empty();
            z.write(0, p, 5);
            int blob = z.add(0, p);
            Due.is("reached by the entry of path " + p, 1, () -> Edge.yes(z.isReached(0, blob)));
            VersionWorks w = Scenes.stopped();
            w.expireReflog(0, 0);
            for (int stage = 0; stage < 3; stage++) {
                int s = stage;
                Due.is("reached by a stage of path " + p, 1, () -> Edge.yes(w.isReached(0, w.stage(0, p, s))));
            }
        }
        // Stages at path 15 that nothing else reaches.
        for (int stage = 0; stage < 3; stage++) {
            for (int p : new int[] {0, 15}) {
                VersionWorks z = new VersionWorks();
                commit(z, 4, 4, 0);
                z.detach(0, z.head(0));
                commit(z, p, 1, 1);
                z.write(0, p, 2);
                z.stashPush(0, 1, 1);
                z.switchTo(0, 0);
                z.write(0, p, 3);
                z.add(0, p);
                z.stashApply(0, 0, false);
                z.stashDrop(0, 0);
                z.expireReflog(0, 0);
                int blob = z.stage(0, p, stage);
                Due.is("stage " + stage + " of path " + p, 1, () -> Edge.yes(z.isReached(0, blob)));
                Due.is("takeStage", 1, () -> z.takeStage(0, p, 1));
                Due.is("mergeFile", 1, () -> z.mergeFile(0, p, 0));
                Due.same("the marks", "100 3 101 2 102", lines(z, p));
            }
        }
    }

    private static void firstAndLastPathsOfActs() {
        for (int p : new int[] {0, 15}) {
            Edge.refused("a rebase with a file that differs at path " + p, Due.STATE, () -> {
                VersionWorks x = Scenes.ends();
                x.write(0, p, 5);
                return x;
            }, x -> x.rebase(0, TOP, TOP, 0));
            Edge.refused("a switch with a file that differs at path " + p, Due.STATE, () -> {
                VersionWorks x = Scenes.ends();
                x.write(0, p, 5);
                return x;
            }, x -> x.switchTo(0, 3));
            Edge.refused("a merge with a file that differs at path " + p, Due.STATE, () -> {
                VersionWorks x = Scenes.ends();
                x.write(0, p, 5);
                return x;
            }, x -> x.merge(0, SIDE, 0, 0, 0, 0));
            Edge.refused("a push to HEAD with a file that differs at path " + p, Due.STATE, () -> {
                VersionWorks x = Scenes.ends();
                x.write(1, p, 5);
                return x;
            }, x -> x.push(0, 3, 2, 1, 240));
            Edge.refused("a commit with a conflict at path " + p, Due.STATE, () -> {
                VersionWorks x = Scenes.stopped();
                x.add(0, 15 - p);
                return x;
            }, x -> x.proceed(0));
            VersionWorks x = Scenes.ends();
            x.write(0, p, 5);
            Due.yes("a stash of a file that differs at path " + p, x.stashPush(0, 0, 0) != NONE);
            Due.is("forced", 6, () -> x.fileLines(0, p));
            Due.is("applied", 1, () -> Edge.yes(x.stashApply(0, 0, true)));
            Due.is("the file", 5, () -> x.fileLine(0, p, 0));
            // The same change, but at this path: it is not there already.
            VersionWorks y = Scenes.empty();
            int root = commit(y, 7, 7, 0);
            y.write(0, 3, 3);
            y.write(0, p, 4);
            y.addAll(0);
            int mine = y.commit(0, 0, 1);
            y.detach(0, root);
            int same = commit(y, 3, 3, 2);
            y.detach(0, mine);
            Due.is("rebase", 2, () -> y.rebase(0, same, same, 0));
            Due.yes("it was to do", y.head(0) != same);
            Due.is("its change of path " + p, 1, () -> y.blobAt(0, y.head(0), p) != NONE ? 1 : 0);
        }
    }

    private static void firstAndLastRefs() {
        Edge.says("part 0", "Branches, tags and tracks are 0 to 5, each there or not.");
        for (int n : new int[] {0, 5}) {
            VersionWorks x = Scenes.bare();
            x.detach(1, TOP);
            x.branch(1, n, Scenes.commit(x, 1, 7, 881, 1));
            int object = x.annotate(1, n, x.branchAt(1, n), 3);
            Due.is("a track and a tag", 2, () -> x.fetch(0, 240));
            Due.is("branch " + n, x.twin(1, x.branchAt(1, n)), () -> x.trackAt(0, n));
            Due.is("tag " + n, x.twin(1, object), () -> x.tagAt(0, n));
            Due.is("five were sent", 5, () -> x.sent());
            Due.is("described by tag " + n, n, () -> x.describe(0, x.trackAt(0, n)));
            VersionWorks y = Scenes.bare();
            y.detach(1, TOP);
            y.branch(1, n, Scenes.commit(y, 1, 7, 881, 1));
            Due.is("a branch alone", 1, () -> y.fetch(0, 240));
            Due.is("four objects", 4, () -> y.sent());
            Due.is("branch " + n + " alone", Scenes.COUNT + 3, () -> y.trackAt(0, n));
            x.branch(0, n, x.trackAt(0, n));
            Due.is("containing", 1 << n, () -> x.containing(0, x.branchAt(0, n)) & (1 << n));
            Due.is("reached by it", 1, () -> Edge.yes(x.isReached(0, x.branchAt(0, n))));
            x.deleteBranch(1, n, true);
            Due.is("pruned: 0, 3 and 5", 3, () -> x.pruneTracks(0));
            Due.is("not there any more", NONE, () -> x.trackAt(0, n));
            Scenes.typed(x, "T" + n);
            Due.is("named", x.branchAt(0, n), () -> x.resolve(0));
        }
    }

    private static void firstAndLastObjects() {
        VersionWorks x = Scenes.empty();
        x.write(0, 0, 5);
        Due.is("the first object", 0, () -> x.add(0, 0));
        Due.is("reached", 1, () -> Edge.yes(x.isReached(0, 0)));
        x.unstage(0, 0);
        Due.is("dangling", 1, () -> x.dangling(0));
        Due.is("the first object dangles", 0, () -> x.danglingAt(0, 0));
        Due.is("packed", 3, () -> x.pack(0, 0, 0));
        Due.is("packed", 1, () -> Edge.yes(x.isPacked(0, 0)));
        Due.is("collected", 1, () -> x.collect(0, 0));
        Due.is("not present", NONE, () -> x.kind(0, 0));
        VersionWorks y = Scenes.full(Scenes::empty, 0, 0);
        Due.is("240 dangle", 240, () -> y.dangling(0));
        Due.is("the last object dangles", 239, () -> y.danglingAt(0, 239));
        Due.index("behind it", () -> y.danglingAt(0, 240));
        Due.is("the last one is packed", 1, () -> {
            y.pack(0, 8, 8);
            return Edge.yes(y.isPacked(0, 239));
        });
        Due.is("all are collected", 240, () -> y.collect(0, 0));
        Due.is("the last one", NONE, () -> y.kind(0, 239));
        // The newest entry of the reflog alone reaches a commit, and the oldest one alone.
        VersionWorks z = Scenes.line(1);
        z.startBranch(0, 1);
        z.deleteBranch(0, 0, true);
        z.unstage(0, 0);
        Due.is("by the newest entry", 4, () -> z.reached(0));
        VersionWorks w = Scenes.line(1);
        int first = w.head(0);
        w.startBranch(0, 1);
        w.deleteBranch(0, 0, true);
        w.write(0, 0, 5);
        w.add(0, 0);
        w.commit(0, 0, 0);
        for (int k = 2; k < 30; k++) {
            w.reset(0, w.head(0), 0);
        }
        Due.is("thirty entries", 30, () -> w.reflog(0));
        Due.is("by the oldest entry", 1, () -> Edge.yes(w.isReached(0, first)));
        w.reset(0, w.head(0), 0);
        Due.is("it was dropped", 0, () -> Edge.yes(w.isReached(0, first)));
    }

    // ---- histories

    private static void basesBelowMerges() {
        Edge.says("part 5", "The merge bases of two commits are those of their common ancestors from which no other common ancestor "
                + "descends, listed newest first.");
        for (boolean second : new boolean[] {false, true}) {
            VersionWorks x = Scenes.ends();
            x.detach(0, second ? SIDE : TOP);
            x.merge(0, second ? TOP : SIDE, 1, 1, 0, 0);
            int merged = x.head(0);
            int one = commit(x, 1, 1, 1);
            x.detach(0, merged);
            int other = commit(x, 2, 2, 2);
            Due.is("the merge alone, neither of its parents", 1, () -> x.bases(0, one, other));
            Due.is("it", merged, () -> x.base(0, one, other, 0));
            Due.is("a parent and its merge", 1, () -> x.bases(0, TOP, merged));
            Due.is("the parent", TOP, () -> x.base(0, TOP, merged, 0));
            Due.is("the other parent", SIDE, () -> x.base(0, merged, SIDE, 0));
        }
    }

    private static void secondParentsInLists() {
        Edge.says("part 0", "again and again, of those not listed yet all of whose children within the set have been listed");
        // A second parent, then a first one, of a date far above that of the merge.
        for (boolean second : new boolean[] {false, true}) {
            VersionWorks x = Scenes.empty();
            x.tick(0, 50);
            commit(x, 0, 1, 1);
            x.fetch(1, 240);
            int late = x.trackAt(1, 0);
            x.startBranch(1, 1);
            int early = Scenes.commit(x, 1, 4, 4, 2);
            x.detach(1, second ? early : late);
            if (!second) {
                Due.is("the file of the other one goes", NONE, () -> x.fileLines(1, 4));
            }
            Due.is("merged", 2, () -> x.merge(1, second ? late : early, 1, 0, 1, 3));
            Scenes.typed(x, "H");
            Due.is("three", 3, () -> x.list(1));
            Due.is("the merge first, though its date is 0", x.head(1), () -> x.listed(1, 0));
            Due.is("then the parent of the greatest date", late, () -> x.listed(1, 1));
            Due.is("then the other", early, () -> x.listed(1, 2));
        }
    }

    private static void blankIndexes() {
        // HEAD is on an unborn branch, and the index tells its head snapshot: it has nothing.
        Edge.Scene blank = () -> {
            VersionWorks x = Scenes.unborn();
            for (int p : new int[] {0, 7, 15}) {
                x.removeFile(0, p);
                x.add(0, p);
            }
            return x;
        };
        Edge.state("merge", "there is no head commit", blank, x -> x.merge(0, SIDE, 0, 0, 0, 0));
        Edge.state("merge", "there is no head commit", blank, x -> x.merge(0, SIDE, 1, 0, 0, 0));
        Edge.state("cherryPick", "there is no head commit", blank, x -> x.cherryPick(0, SIDE, 0, 0));
        Edge.state("cherryPick", "there is no head commit", blank, x -> x.cherryPick(0, ROOT, 0, 0));
        Edge.state("revert", "there is no head commit", blank, x -> x.revert(0, SIDE, 0, 0, 0, 0));
        Edge.state("rebase", "there is no head commit", blank, x -> x.rebase(0, SIDE, SIDE, 0));
        Edge.state("amend", "there is no head commit", blank, x -> x.amend(0, 0, 0));
        Edge.state("commit", "the index tells the head snapshot", blank, x -> x.commit(0, 0, 0));
        Edge.state("stashPush", "there is no head commit", blank, x -> x.stashPush(0, 0, 0));
        Edge.state("stashPush", "there is no head commit", () -> {
            VersionWorks x = blank.make();
            x.add(0, 11);
            return x;
        }, x -> x.stashPush(0, 0, 0));
        Due.is("applied without a head commit: path 7 is changed and not there", 0,
                () -> Edge.yes(blank.make().stashApply(0, 0, false)));
        Due.is("switched from it", ROOT, () -> blank.make().switchTo(0, 0));
        Due.is("detached from it", NONE, () -> blank.make().detach(0, TOP));
    }

    private static void conflictsThatAreOver() {
        Edge.says("stage", "NONE if that stage is none, or there is no conflict");
        Edge.Act[] over = {x -> x.add(0, 0), x -> x.unstage(0, 0), x -> x.addAll(0), x -> x.abort(0)};
        for (Edge.Act act : over) {
            VersionWorks x = Scenes.stopped();
            act.on(x);
            for (int stage = 0; stage < 3; stage++) {
                int s = stage;
                Due.is("no stage any more", NONE, () -> x.stage(0, 0, s));
            }
            Due.yes("no conflict", x.staged(0, 0) != 4);
        }
        VersionWorks x = Scenes.clashed();
        x.reset(0, TOP, 1);
        for (int stage = 0; stage < 3; stage++) {
            int s = stage;
            Due.is("by a mixed reset", NONE, () -> x.stage(0, 7, s));
        }
    }

    private static void stepsThatAreUndone() {
        Edge.says("part 0", "A method that throws an exception changes nothing at all, however far its work had come.");
        // The first step of what is still to do is made, the last is refused: who made the step that stopped is known still.
        VersionWorks x = Scenes.ends();
        x.switchTo(0, 3);
        x.write(0, 1, 1);
        x.add(0, 1);
        x.commit(0, 7, 77);
        x.write(0, 2, 2);
        x.add(0, 2);
        x.commit(0, 8, 88);
        Due.is("stopped", 3, () -> x.rebase(0, TOP, TOP, 0));
        x.write(0, 0, 9);
        x.addAll(0);
        x.add(0, 11);
        x.unstage(0, 11);
        x.write(0, 2, 5);
        String before = Whole.of(x);
        Due.state("the last step is refused", () -> x.proceed(0));
        Due.same("nothing changed", "", Whole.difference(before, Whole.of(x)));
        x.removeFile(0, 2);
        Due.is("without it", 2, () -> x.proceed(0));
        int last = x.head(0);
        int first = x.parent(0, x.parent(0, last, 0), 0);
        Due.is("the author of the step that stopped", 4, () -> x.author(0, first));
        Due.is("its message", 44, () -> x.message(0, first));
        Due.is("upon TOP", TOP, () -> x.parent(0, first, 0));
        Due.is("the author of the next", 7, () -> x.author(0, x.parent(0, last, 0)));
        Due.is("the author of the last", 8, () -> x.author(0, last));
    }

    private static void undoneStarts() {
        // A rebase that is refused leaves no commit at which HEAD was.
        VersionWorks x = Scenes.ends();
        x.detach(0, TOP);
        int one = commit(x, 1, 1, 1);
        x.removeFile(0, 1);
        x.add(0, 1);
        int two = x.commit(0, 1, 2);
        x.write(0, 1, 5);
        Due.state("in the way of the first step", () -> x.rebase(0, SIDE, SIDE, 2));
        x.removeFile(0, 1);
        x.reset(0, SIDE, 2);
        x.expireReflog(0, 0);
        Due.is("not reached", 0, () -> Edge.yes(x.isReached(0, two)));
        Due.is("not reached", 0, () -> Edge.yes(x.isReached(0, one)));
        // So does one with a full reflog, whose oldest entry is dropped and comes back.
        Edge.refused("in the way of the second step, with 30 entries", Due.STATE, () -> {
            VersionWorks y = Scenes.ends();
            y.detach(0, TOP);
            commit(y, 1, 1, 1);
            y.removeFile(0, 1);
            y.add(0, 1);
            y.commit(0, 1, 2);
            for (int k = 0; k < 30; k++) {
                y.tick(0, 1);
                y.reset(0, y.head(0), 1);
            }
            y.write(0, 1, 5);
            return y;
        }, y -> y.rebase(0, SIDE, SIDE, 2));
        // A commit that was collected is told no more.
        VersionWorks y = Scenes.line(3);
        int root = y.parent(0, y.parent(0, y.head(0), 0), 0);
        y.reset(0, root, 2);
        y.expireReflog(0, 0);
        Due.is("two are collected", 8, () -> y.collect(0, 0));
        Scenes.commit(y, 1, 0, 5, 5);
        y.fetch(0, 240);
        Edge.says("part 8", "The receiver tells the sender its commits, all that are present there, in rounds.");
        Due.is("one is told", 1, () -> y.told());
        Scenes.typed(y, "B0");
        Due.is("one is listed", 1, () -> y.list(0));
    }

    // ---- differences

    private static int longest(int[] a, int i, int[] b, int j) {
        int[][] known = new int[a.length + 1][b.length + 1];
        for (int k = a.length - 1; k >= i; k--) {
            for (int m = b.length - 1; m >= j; m--) {
                known[k][m] = a[k] == b[m] ? 1 + known[k + 1][m + 1] : Math.max(known[k + 1][m], known[k][m + 1]);
            }
        }
        return known[i][j];
    }

    /** As the document tells it, each time with a longest common row of its own. */
    private static void differencesOfAll() {
        Edge.says("part 6", "otherwise, if the longest common row of what is left without that old line and of what is left of the new "
                + "row is no less than that of what is left of the old row and of what is left without that new line");
        Random random = new Random(4);
        for (int times = 0; times < 300; times++) {
            int[] a = new int[random.nextInt(times % 10 == 0 ? 61 : 14)];
            int[] b = new int[random.nextInt(times % 10 == 0 ? 61 : 14)];
            for (int k = 0; k < a.length; k++) {
                a[k] = 1 + random.nextInt(4);
            }
            for (int k = 0; k < b.length; k++) {
                b[k] = 1 + random.nextInt(4);
            }
            int[] due = new int[a.length];
            java.util.Arrays.fill(due, NONE);
            int i = 0;
            int j = 0;
            while (i < a.length && j < b.length) {
                if (a[i] == b[j]) {
                    due[i] = j;
                    i++;
                    j++;
                } else if (longest(a, i + 1, b, j) >= longest(a, i, b, j + 1)) {
                    i++;
                } else {
                    j++;
                }
            }
            VersionWorks x = new VersionWorks();
            put(x, 0, a);
            put(x, 1, b);
            int from = x.indexed(0, 0);
            int to = x.indexed(0, 1);
            for (int k = 0; k < a.length; k++) {
                int place = k;
                Due.is("a pair", due[k], () -> x.diffPair(0, from, to, place));
            }
            int common = longest(a, 0, b, 0);
            Due.is("as many pairs as the longest common row", a.length + b.length - 2 * common, () -> x.diffSize(0, from, to));
            Due.is("likeness", a.length + b.length == 0 ? 100 : 200 * common / (a.length + b.length),
                    () -> x.likeness(0, from, to));
        }
    }

    /** What is asked behind a longer difference is answered as if it had been asked at first. */
    private static void oneAfterAnother() {
        VersionWorks x = new VersionWorks();
        int[] one = new int[60];
        int[] other = new int[60];
        java.util.Arrays.fill(one, 1);
        java.util.Arrays.fill(other, 2);
        put(x, 0, one);
        put(x, 1, other);
        put(x, 2, 9, 1, 2, 3, 4, 5);
        put(x, 3, 1, 2, 3, 4, 5);
        int a = x.indexed(0, 2);
        int b = x.indexed(0, 3);
        Due.is("sixty lines for sixty others", 1, () -> x.hunks(0, x.indexed(0, 0), x.indexed(0, 1), 0));
        Due.is("one line, with two around", 1, () -> x.hunks(0, a, b, 2));
        Due.is("not to the end", 3, () -> x.hunkLength(0, a, b, 2, 0, false));
        Due.is("the same", 0, () -> x.hunks(0, a, a, 9));
        Due.is("nothing", 0, () -> x.hunks(0, NONE, NONE, 9));
        Due.is("costs", 3 + 2 + 1 + 1, () -> x.deltaCost(0, b, a));
        Due.is("sixty lines in no pair", 3 + 60 + 1, () -> x.deltaCost(0, x.indexed(0, 0), x.indexed(0, 1)));
        Due.is("costs, again", 5, () -> x.deltaCost(0, a, b));
        // Conflicts where one side has nothing, asked ahead of the bases of another merge.
        VersionWorks y = new VersionWorks();
        put(y, 0, 1, 2, 3);
        int root = y.commit(0, 0, 0);
        put(y, 0, 9, 2, 3);
        int left = y.commit(0, 0, 1);
        y.reset(0, root, 2);
        put(y, 0, 1, 2, 8);
        int right = y.commit(0, 0, 2);
        y.removeFile(0, 0);
        y.add(0, 0);
        put(y, 1, 1);
        int gone = y.commit(0, 0, 3);
        y.detach(0, left);
        y.merge(0, right, 1, 0, 0, 4);
        int first = y.head(0);
        y.detach(0, right);
        y.merge(0, left, 1, 0, 0, 5);
        int second = y.head(0);
        for (int times = 0; times < 2; times++) {
            Due.is("one side has nothing", 1, () -> y.wouldClash(0, left, gone));
            Due.is("the base of a criss-cross", 3, () -> y.baseLines(0, first, second, 0));
            Due.is("both changes", 9, () -> y.baseLine(0, first, second, 0, 0));
            Due.is("both changes", 8, () -> y.baseLine(0, first, second, 0, 2));
            Due.is("without a base", NONE, () -> y.baseLines(0, first, second, 1));
        }
        // A conflict's rows are merged anew, whatever was asked between.
        VersionWorks z = Scenes.stopped();
        z.wouldClash(0, ROOT, ROOT);
        z.mergedLines(0, SIDE, ROOT, 0);
        Due.is("one clashes", 1, () -> z.mergeFile(0, 0, 0));
        Due.same("the marks", "1 2 3 4 5 100 9 101 8 102", lines(z, 0));
        Due.is("one clashes at the last path", 1, () -> z.mergeFile(0, 15, 0));
        Due.same("the marks", "1 2 3 4 5 100 9 101 7 102", lines(z, 15));
        z.mergedLines(0, ROOT, ROOT, 0);
        Due.is("one clashes", 1, () -> z.mergeFile(0, 0, 1));
        Due.same("ours", "1 2 3 4 5 9", lines(z, 0));
    }

    private static void renamesAfterRenames() {
        Edge.says("part 6", "Again and again, of all lost and new paths that are in no rename yet");
        VersionWorks x = new VersionWorks();
        x.write(0, 0, 12344);
        x.write(0, 4, 123456);
        x.addAll(0);
        int from = x.commit(0, 1, 1);
        x.removeFile(0, 0);
        x.removeFile(0, 4);
        x.write(0, 9, 123457);
        x.addAll(0);
        int to = x.commit(0, 1, 2);
        Due.is("less alike than the limit", NONE, () -> x.renamedFrom(0, from, to, 9, 100));
        Due.is("of a commit and itself nothing", NONE, () -> x.renamedFrom(0, to, to, 9, 1));
        Due.is("the more alike", 4, () -> x.renamedFrom(0, from, to, 9, 1));
        Due.is("the first path lost is in no rename, as the new one is", NONE, () -> x.renamedFrom(0, from, to, 0, 1));
        Due.is("the other way: the more alike new path", 9, () -> x.renamedFrom(0, to, from, 4, 1));
        Due.is("the first path, new, is left over", NONE, () -> x.renamedFrom(0, to, from, 0, 1));
        // Eight renames at once are as many as there can be, each path in one.
        VersionWorks y = new VersionWorks();
        for (int p = 0; p < 8; p++) {
            y.write(0, p, 1111 * (p + 1));
        }
        y.addAll(0);
        int one = y.commit(0, 1, 1);
        for (int p = 0; p < 8; p++) {
            y.moveFile(0, p, 15 - p);
        }
        y.addAll(0);
        int two = y.commit(0, 1, 2);
        for (int p = 0; p < 8; p++) {
            int path = p;
            Due.is("each", p, () -> y.renamedFrom(0, one, two, 15 - path, 100));
            Due.is("each, the other way", 15 - p, () -> y.renamedFrom(0, two, one, path, 100));
        }
    }

    private static void originsOfSecondParents() {
        Edge.says("part 6", "If a parent knows it, the origin is that of the other line of the pair");
        VersionWorks x = Scenes.ends();
        x.detach(0, TOP);
        int one = commit(x, 4, 12, 1);
        x.detach(0, SIDE);
        x.merge(0, one, 1, 1, 0, 2);
        Due.is("the first parent has nothing there", one, () -> x.blame(0, x.head(0), 4, 1, 0));
        Due.is("also by renames", one, () -> x.blame(0, x.head(0), 4, 1, 1));
        Due.is("the second alone has the line", TOP, () -> x.blame(0, x.head(0), 7, 0, 50));
        Due.is("its place", 1, () -> x.blamePlace(0, x.head(0), 7, 1, 50));
        Due.is("a parent that has nothing there, and no other", one, () -> x.blame(0, one, 4, 0, 0));
        Due.is("a commit without parents", ROOT, () -> x.blame(0, ROOT, 0, 0, 100));
    }

    private static void longStretches() {
        Edge.says("part 7", "theirs, if ours has the same lines there as the base; otherwise ours, if theirs has the same lines there as "
                + "the base, or as ours; otherwise the stretch clashes");
        int[][][] rows = {
            {{1, 2, 3, 4}, {1, 2, 9, 4}, {1, 8, 8, 4}, {1, 100, 2, 9, 101, 8, 8, 102, 4}},
            {{1, 2, 3, 4}, {1, 7, 8, 4}, {1, 7, 9, 4}, {1, 100, 7, 8, 101, 7, 9, 102, 4}},
            {{1, 2, 3, 4}, {1, 8, 8, 4}, {1, 2, 9, 4}, {1, 100, 8, 8, 101, 2, 9, 102, 4}},
            {{1, 2, 3, 4}, {1, 7, 8, 4}, {1, 7, 8, 4, 5}, {1, 7, 8, 4, 5}},
            {{1, 4}, {1, 7, 8, 4}, {1, 7, 9, 4}, {1, 100, 7, 8, 101, 7, 9, 102, 4}},
        };
        for (int[][] row : rows) {
            VersionWorks x = new VersionWorks();
            put(x, 15, row[0]);
            int root = x.commit(0, 0, 0);
            put(x, 15, row[1]);
            int ours = x.commit(0, 0, 1);
            x.detach(0, root);
            put(x, 15, row[2]);
            int theirs = x.commit(0, 0, 2);
            Due.is("so many lines", row[3].length, () -> x.mergedLines(0, ours, theirs, 15));
            for (int k = 0; k < row[3].length; k++) {
                int place = k;
                Due.is("the line", row[3][k], () -> x.mergedLine(0, ours, theirs, 15, place));
            }
        }
    }

    // ---- acts

    private static void changesOfCommonOnes() {
        Edge.says("part 7", "a commit is there already, if an ancestor of the upstream commit that is none of the head commit, and has one "
                + "parent at most, makes the same change");
        VersionWorks x = new VersionWorks();
        commit(x, 0, 1, 0);
        int added = commit(x, 1, 5, 1);
        x.removeFile(0, 1);
        x.add(0, 1);
        int gone = x.commit(0, 1, 2);
        int up = commit(x, 2, 2, 3);
        x.detach(0, gone);
        int again = commit(x, 1, 5, 4);
        Due.is("rebase", 2, () -> x.rebase(0, up, up, 0));
        Due.is("a common ancestor made the same change: it is to do all the same", 4, () -> x.message(0, x.head(0)));
        Due.is("upon it", up, () -> x.parent(0, x.head(0), 0));
        Due.yes("both", added != again);
        // A merge of the upstream that makes the same change is none of those that count.
        VersionWorks y = new VersionWorks();
        int root = commit(y, 0, 1, 0);
        int mine = commit(y, 1, 5, 1);
        y.detach(0, root);
        int side = commit(y, 2, 2, 2);
        y.detach(0, root);
        y.merge(0, side, 1, 0, 0, 3);
        y.write(0, 1, 5);
        y.add(0, 1);
        y.removeFile(0, 2);
        y.add(0, 2);
        int merge = y.amend(0, 0, 3);
        Due.is("two parents", side, () -> y.parent(0, merge, 1));
        y.detach(0, mine);
        Due.is("rebase", 2, () -> y.rebase(0, merge, side, 0));
        Due.is("it was to do", 1, () -> y.message(0, y.head(0)));
        Due.is("upon the side", side, () -> y.parent(0, y.head(0), 0));
    }

    private static void describedByDates() {
        Edge.says("part 5", "of several that whose commit has the greatest date, then that with the least number");
        // Three sides of one commit each, of the dates 1, 3 and 2, merged two by two: the merge is ahead of each by as many.
        VersionWorks x = new VersionWorks();
        int root = commit(x, 0, 1, 0);
        int[] sides = new int[3];
        int[] dates = {1, 3, 2};
        for (int k = 0; k < 3; k++) {
            x.detach(0, root);
            while (x.clock(0) < dates[k]) {
                x.tick(0, 1);
            }
            sides[k] = commit(x, 4 + k, 4, 1 + k);
        }
        x.detach(0, sides[0]);
        x.merge(0, sides[1], 1, 0, 0, 4);
        x.merge(0, sides[2], 1, 0, 0, 5);
        int all = x.head(0);
        for (int k = 0; k < 3; k++) {
            int side = sides[k];
            Due.is("ahead of each by as many", 4, () -> x.ahead(0, all, side));
        }
        // The clock had gone to 3 ahead of the last side: it has the date 3, too.
        x.tag(0, 2, sides[0]);
        x.tag(0, 3, sides[1]);
        x.tag(0, 4, sides[2]);
        Due.is("the greatest date, the least number", 3, () -> x.describe(0, all));
        x.deleteTag(0, 3);
        Due.is("the other one of that date", 4, () -> x.describe(0, all));
        x.tag(0, 5, sides[1]);
        Due.is("the least number", 4, () -> x.describe(0, all));
        x.deleteTag(0, 4);
        Due.is("the last tag", 5, () -> x.describe(0, all));
        x.deleteTag(0, 5);
        Due.is("the lesser date", 2, () -> x.describe(0, all));
        x.tag(0, 0, sides[1]);
        Due.is("the first tag", 0, () -> x.describe(0, all));
        x.tag(0, 1, root);
        Due.is("not the one further away", 0, () -> x.describe(0, all));
    }

    private static void fastForwards() {
        Edge.says("merge", "the index and the files are carried from the head snapshot to its snapshot, and HEAD is moved to it by the "
                + "act 4 (a fast-forward)");
        VersionWorks x = Scenes.ends();
        x.switchTo(0, 0);
        x.tick(0, 5);
        Due.is("forward", 1, () -> x.merge(0, TOP, 0, 0, 9, 99));
        Due.is("the commit itself", TOP, () -> x.branchAt(0, 0));
        Due.is("on its branch", 0, () -> x.headBranch(0));
        Due.same("the file", "1 2 3 4 5 9", lines(x, 15));
        Due.same("an added file", "7 7", lines(x, 7));
        for (int p = 0; p < 16; p++) {
            int path = p;
            Due.is("the index", 0, () -> x.staged(0, path));
        }
        Due.is("the act", 4, () -> x.reflogAct(0, 0));
        Due.is("the clock", 5, () -> x.reflogDate(0, 0));
        Due.is("no object", Scenes.COUNT, () -> x.objects(0));
        VersionWorks y = Scenes.ends();
        y.detach(0, ROOT);
        Due.is("detached", 1, () -> y.merge(0, TOP, 2, 0, 9, 99));
        Due.is("HEAD is at it", TOP, () -> y.head(0));
        Due.is("still detached", NONE, () -> y.headBranch(0));
    }

    private static void pickedLines() {
        Edge.says("part 7", "A cherry-pick of a commit has as base the snapshot of its parent (of that of its two which is chosen), one that "
                + "has nothing, if it has none, and as theirs its own");
        VersionWorks x = new VersionWorks();
        put(x, 0, 1, 2, 3, 4, 5);
        int root = x.commit(0, 0, 0);
        put(x, 0, 9, 1, 2, 3, 4, 5);
        int front = x.commit(0, 0, 1);
        x.reset(0, root, 2);
        put(x, 0, 1, 2, 3, 4, 5, 8);
        int back = x.commit(0, 0, 2);
        put(x, 0, 1, 2, 7, 3, 4, 5, 8);
        int between = x.commit(0, 0, 3);
        x.detach(0, front);
        x.merge(0, between, 1, 0, 0, 4);
        int merged = x.head(0);
        Due.same("all three", "9 1 2 7 3 4 5 8", lines(x, 0));
        x.detach(0, front);
        Due.is("one change alone", 2, () -> x.cherryPick(0, between, 0, 0));
        Due.same("one change alone", "9 1 2 7 3 4 5", lines(x, 0));
        x.detach(0, root);
        Due.is("by the first parent", 2, () -> x.cherryPick(0, merged, 1, 0));
        Due.same("what the second brought", "1 2 7 3 4 5 8", lines(x, 0));
        x.detach(0, root);
        Due.is("by the second parent", 2, () -> x.cherryPick(0, merged, 2, 0));
        Due.same("what the first brought", "9 1 2 3 4 5", lines(x, 0));
        x.detach(0, merged);
        Due.is("revert one", 2, () -> x.revert(0, back, 0, 0, 0, 0));
        Due.same("without it", "9 1 2 7 3 4 5", lines(x, 0));
        x.detach(0, merged);
        Due.is("revert by the first parent", 2, () -> x.revert(0, merged, 1, 0, 0, 0));
        Due.same("without what the second brought", "9 1 2 3 4 5", lines(x, 0));
        x.detach(0, merged);
        Due.is("revert by the second parent", 2, () -> x.revert(0, merged, 2, 0, 0, 0));
        Due.same("without what the first brought", "1 2 7 3 4 5 8", lines(x, 0));
    }

    // ---- two repositories that number otherwise

    /** A commit in repository 0, fetched, and one more blob in each, so that no number is that of its twin. */
    private static VersionWorks shifted() {
        VersionWorks x = new VersionWorks();
        for (int k = 0; k < 3; k++) {
            x.write(1, 13, 51 + k);
            x.add(1, 13);
        }
        x.unstage(1, 13);
        x.removeFile(1, 13);
        int root = commit(x, 0, 1, 1);
        x.branch(0, 3, commit(x, 0, 2, 2));
        x.branch(0, 4, root);
        x.fetch(1, 240);
        x.branch(1, 3, x.trackAt(1, 3));
        x.branch(1, 4, x.trackAt(1, 4));
        x.fetch(0, 240);
        return x;
    }

    private static void otherNumbers() {
        Edge.says("part 0", "Twins are an object of one repository and one of the other that hold the same: their parts, one by one, are "
                + "twins, too; their numbers do not matter.");
        VersionWorks x = shifted();
        int here = x.branchAt(0, 3);
        int there = x.branchAt(1, 3);
        Due.yes("other numbers", here != there && x.twin(0, here) == there && x.twin(1, there) == here);
        Due.is("a lease", there, () -> shifted().push(0, 3, 3, 2, 240));
        Due.is("a lease, to another commit", x.branchAt(1, 4), () -> shifted().push(0, 4, 3, 2, 240));
        Due.is("a plain push", there, () -> shifted().push(0, 3, 4, 0, 240));
        Due.state("a plain push back", () -> shifted().push(0, 4, 3, 0, 240));
        VersionWorks y = shifted();
        y.moveBranch(1, 3, y.branchAt(1, 4));
        Due.state("a lease that is out", () -> y.push(0, 3, 3, 2, 240));
        Due.state("a branch that was moved", () -> y.pushDelete(0, 3));
        VersionWorks z = shifted();
        z.twin(1, 0);
        Due.is("deleted", z.branchAt(1, 3), () -> z.pushDelete(0, 3));
        Due.is("the track", NONE, () -> z.trackAt(0, 3));
        VersionWorks w = shifted();
        w.wouldSend(1, w.branchAt(1, 3));
        Due.is("a lease, whatever was asked ahead", there, () -> w.push(0, 3, 3, 2, 240));
        Due.is("nothing to send", 0, () -> w.wouldSend(0, here));
    }

    private static void transfersAfterTransfers() {
        Edge.says("part 8", "Of the latest transfer (of fetch() and push(), in whichever repository; one that was refused is none)");
        VersionWorks x = shifted();
        int one = commit(x, 4, 61, 1);
        Scenes.commit(x, 1, 4, 62, 2);
        Due.is("fetched", 1, () -> x.fetch(1, 240) >= 0 ? 1 : 0);
        Due.is("four objects", 4, () -> x.sent());
        x.branch(1, 5, x.head(1));
        Due.is("fetched, the other way", 2, () -> x.fetch(0, 240));
        Due.is("four objects: HEAD's branch 0 and branch 5 are at one commit", 4, () -> x.sent());
        commit(x, 4, 63, 3);
        Due.is("a push behind fetches", 1, () -> x.push(0, 0, 1, 0, 240) > 0 ? 1 : 0);
        Due.is("four objects", 4, () -> x.sent());
        Due.is("wouldSend behind a push", 0, () -> x.wouldSend(0, one));
        int more = commit(x, 4, 64, 4);
        Due.is("wouldSend of one more", 4, () -> x.wouldSend(0, more));
        Due.is("asked again", 4, () -> x.wouldSend(0, more));
        Due.is("of one that is there", 0, () -> x.wouldSend(1, x.head(1)));
        Due.is("and again", 4, () -> x.wouldSend(0, more));
        Due.is("the latest transfer is told still", 4, () -> x.sent());
        // Ten blobs that no commit has: what was wanted of the other repository bears the number of one of them here.
        for (boolean asked : new boolean[] {false, true}) {
            VersionWorks y = new VersionWorks();
            for (int k = 0; k < 10; k++) {
                y.write(0, 9, 51 + k % 9 + 30 * (k / 9));
                y.add(0, 9);
            }
            y.unstage(0, 9);
            y.removeFile(0, 9);
            Scenes.commit(y, 1, 0, 7, 1);
            Due.is("fetched", 1, () -> y.fetch(0, 240));
            int made = commit(y, 4, 9, 2);
            if (asked) {
                Due.is("what a push would send", 4, () -> y.wouldSend(0, made));
            } else {
                y.push(0, 0, 1, 1, 240);
                Due.is("what a push sends", 4, () -> y.sent());
            }
        }
        // What was wanted of the other repository bears the number of a commit here, which is not pushed.
        VersionWorks w = Scenes.line(1);
        Scenes.commit(w, 1, 0, 7, 1);
        Due.is("fetched", 1, () -> w.fetch(0, 240));
        Due.is("of the same number", w.branchAt(0, 0), () -> w.branchAt(1, 0));
        w.startBranch(0, 1);
        commit(w, 0, 8, 2);
        Due.is("pushed", 1, () -> w.push(0, 1, 1, 0, 240) > 0 ? 1 : 0);
        Due.is("four objects", 4, () -> w.sent());
        // What was common in a transfer the other way is nothing to this one: number 4 of repository 0 was.
        VersionWorks z = Scenes.line(1);
        z.fetch(1, 240);
        z.reset(1, z.trackAt(1, 0), 2);
        z.write(1, 8, 9);
        Due.is("a blob that no commit has", 4, () -> z.add(1, 8));
        z.unstage(1, 8);
        z.removeFile(1, 8);
        Scenes.commit(z, 1, 5, 5, 5);
        commit(z, 0, 2, 2);
        z.fetch(1, 240);
        z.fetch(0, 240);
        Due.is("two are told", 2, () -> z.told());
        int last = commit(z, 4, 9, 3);
        Due.is("the blob is there, but no commit has it", 4, () -> z.wouldSend(0, last));
        Due.is("again", 4, () -> z.wouldSend(0, last));
    }

    // ---- packs

    private static void danglingAgain() {
        Edge.says("dangling", "Returns how many objects are dangling");
        VersionWorks x = Scenes.line(1);
        x.detach(0, x.head(0));
        int side = commit(x, 4, 4, 4);
        int tag = x.annotate(0, 0, side, 1);
        x.deleteTag(0, 0);
        x.tick(0, 10);
        x.amend(0, 1, 5);
        x.reset(0, side, 2);
        Due.is("stored anew, by an amend to itself", 10, () -> {
            x.write(0, 4, 4);
            x.add(0, 4);
            return x.stamp(0, x.indexed(0, 4));
        });
        x.switchTo(0, 0);
        x.expireReflog(0, 0);
        Due.is("the tag object and the amended commit", 2, () -> x.dangling(0));
        Due.is("the tag object", tag, () -> x.danglingAt(0, 0));
        // The tag object goes, and the commit it was of; what the amended one shares stays by its stamp.
        Due.is("collected", 2, () -> x.collect(0, 5));
        Due.is("the tag object is gone", NONE, () -> x.kind(0, tag));
        Due.is("one dangles", 1, () -> x.dangling(0));
        // A blob that was part of a tree that goes, and stays itself by its stamp: it dangles then.
        VersionWorks y = Scenes.line(1);
        y.detach(0, y.head(0));
        commit(y, 4, 4, 4);
        int blob = y.indexed(0, 4);
        y.tick(0, 10);
        y.write(0, 4, 4);
        y.add(0, 4);
        y.switchTo(0, 0);
        y.expireReflog(0, 0);
        Due.is("the commit dangles", 1, () -> y.dangling(0));
        Due.is("all but the blob: tree, root, commit", 3, () -> y.collect(0, 5));
        Due.is("the blob dangles", 1, () -> y.dangling(0));
        Due.is("it", blob, () -> y.danglingAt(0, 0));
    }

    private static void packsOfSixty() {
        VersionWorks x = new VersionWorks();
        int[] rows = new int[60];
        for (int k = 0; k < 60; k++) {
            rows[k] = 1 + k;
        }
        put(x, 0, rows);
        rows[30] = 99;
        put(x, 1, rows);
        put(x, 2);
        // Of two rows of sixty lines that with the greater number is whole; the other one is two copies and a line.
        Due.is("sixty lines", 62 + (3 + 2 + 2 + 1 + 1) + 2, () -> x.pack(0, 8, 8));
        Due.is("its base", 1, () -> x.packBase(0, 0));
        Due.is("whole", NONE, () -> x.packBase(0, 1));
        Due.is("a row without lines", NONE, () -> x.packBase(0, 2));
        Due.is("is packed", 1, () -> Edge.yes(x.isPacked(0, 2)));
        Due.is("the line in no pair", 31, () -> x.packedLine(0, 0, 30));
        Due.is("a line of a copy", 60, () -> x.packedLine(0, 0, 59));
        Due.is("the first line", 1, () -> x.packedLine(0, 0, 0));
        Due.index("behind the last line", () -> x.packedLine(0, 0, 60));
        Due.index("of a row without lines", () -> x.packedLine(0, 2, 0));
    }

    private static void whatIsAsked() {
        Edge.says("part 0", "The index tells a snapshot, if it has no conflict.");
        Edge.says("part 7", "This asks that the index tells the head snapshot.");
        VersionWorks x = Scenes.clashed();
        Due.state("with a conflict it tells none: commit", () -> x.commit(0, 0, 0));
        Due.state("amend", () -> x.amend(0, 0, 0));
        Due.state("merge", () -> x.merge(0, SIDE, 0, 0, 0, 0));
        Due.state("cherryPick of what is there already", () -> x.cherryPick(0, ROOT, 0, 1));
        x.takeStage(0, 7, 1);
        x.unstage(0, 7);
        Due.is("the conflict is over", 3, () -> x.merge(0, SIDE, 0, 0, 0, 0));
        Edge.says("part 8", "All that is asked ahead of the transfer.");
        Edge.refused("a push that breaks off is refused all the same, and nothing comes", Due.STATE, () -> {
            VersionWorks y = Scenes.ends();
            commit(y, 7, 881, 1);
            return y;
        }, y -> y.push(0, 2, 3, 0, 1));
        Edge.says("part 11", "and the file there must be as the index, or it is in the way");
        Edge.refused("a file where the index has nothing", Due.STATE, () -> {
            VersionWorks y = Scenes.ends();
            y.write(0, 1, 1);
            y.add(0, 1);
            y.stashPush(0, 0, 0);
            y.write(0, 1, 1);
            return y;
        }, y -> Edge.yes(y.stashApply(0, 0, false)));
        Edge.refused("a file with a conflict to come", Due.STATE, () -> {
            VersionWorks y = Scenes.ends();
            commit(y, 7, 66, 3);
            y.removeFile(0, 7);
            return y;
        }, y -> Edge.yes(y.stashApply(0, 0, false)));
        Edge.says("part 9", "trees, commits and tag objects whole");
        VersionWorks z = Scenes.ends();
        z.pack(0, 8, 8);
        int cost = 0;
        for (int o = 0; o < z.objects(0); o++) {
            int kind = z.kind(0, o);
            int base = kind == 0 ? z.packBase(0, o) : NONE;
            cost += kind == NONE ? 0 : kind == 1 ? 6 : kind == 2 ? 8 : kind == 3 ? 5
                    : base == NONE ? 2 + z.blobLines(0, o) : z.deltaCost(0, base, o);
        }
        Due.is("the sum of all", cost, () -> z.packSize(0));
        Edge.says("part all", "so two commits of one repository that tell the same history, files, authors, dates and messages have one "
                + "number");
        VersionWorks w = Scenes.ends();
        w.detach(0, ROOT);
        int one = commit(w, 7, 881, 1);
        w.detach(1, ROOT);
        Due.is("made in the other repository, and fetched", one, () -> {
            w.branch(1, 4, Scenes.commit(w, 1, 7, 881, 1));
            w.fetch(0, 240);
            return w.trackAt(0, 4);
        });
        Due.is("nothing was sent", 0, () -> w.sent());
    }

    private static void backwards() {
        Edge.says("part 6", "the difference of the two blobs has as many pairs as the longest common row of the two rows told backwards");
        Random random = new Random(5);
        for (int times = 0; times < 60; times++) {
            VersionWorks x = new VersionWorks();
            for (int row = 0; row < 2; row++) {
                int length = random.nextInt(61);
                int[] lines = new int[length];
                int[] turned = new int[length];
                for (int k = 0; k < length; k++) {
                    lines[k] = 1 + random.nextInt(5);
                    turned[length - 1 - k] = lines[k];
                }
                put(x, row, lines);
                put(x, 2 + row, turned);
            }
            Due.is("backwards", x.diffSize(0, x.indexed(0, 0), x.indexed(0, 1)),
                    () -> x.diffSize(0, x.indexed(0, 2), x.indexed(0, 3)));
            Due.is("the other way round", x.diffSize(0, x.indexed(0, 0), x.indexed(0, 1)),
                    () -> x.diffSize(0, x.indexed(0, 1), x.indexed(0, 0)));
        }
    }
}
