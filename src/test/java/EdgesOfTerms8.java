/** The sentences of part 8 of the terms that name a boundary: transfers, fetches, pushes. */
final class EdgesOfTerms8 {
    private static final int NONE = VersionWorks.NONE;
    private static final int ROOT = Scenes.ROOT;
    private static final int TOP = Scenes.TOP;
    private static final int SIDE = Scenes.SIDE;

    public static void main(String[] args) {
        nothingWanted();
        rounds();
        roundsWithCommonOnes();
        packs();
        orders();
        orderOfNumberNone();
        limits();
        tellings();
        fetchedBranches();
        fetchedTags();
        brokenOff();
        plainPushes();
        leases();
        pushesToHead();
        pushesThatAreOver();
        deletes();
        twins();
        Edge.end("EdgesOfTerms8");
    }

    private static int commit(VersionWorks x, int r, int path, long digits, int message) {
        return Scenes.commit(x, r, path, digits, message);
    }

    private static void told(VersionWorks x, String what, int rounds, int told, int sent, int doubles) {
        Due.same(what + ": rounds, told, sent, doubles", rounds + " " + told + " " + sent + " " + doubles,
                x.rounds() + " " + x.told() + " " + x.sent() + " " + x.doubles());
    }

    /** A row of commits of its own in a repository, each with its own lines. */
    private static void row(VersionWorks x, int r, int length) {
        for (int k = 0; k < length; k++) {
            commit(x, r, 0, 1000 * (r + 1) + 111 + 10 * (k / 9 % 9) + k % 9, k);
        }
    }

    private static void nothingWanted() {
        Edge.says("part 8", "Wanted objects that have a twin in the receiver are left out. If none are left, nothing is told and "
                + "nothing is sent: the transfer comes through.");
        VersionWorks x = Scenes.empty();
        Due.is("of an empty repository", 0, () -> x.fetch(0, 1));
        told(x, "of an empty repository", 0, 0, 0, 0);
        row(x, 0, 3);
        Due.is("of an empty repository, into one that has commits", 0, () -> x.fetch(0, 1));
        told(x, "of an empty repository, into one that has commits", 0, 0, 0, 0);
        x.fetch(1, 240);
        told(x, "of three commits", 0, 0, 12, 0);
        Due.is("all have twins", 0, () -> x.fetch(1, 1));
        told(x, "all have twins", 0, 0, 0, 0);
        x.branch(0, 1, x.parent(0, x.head(0), 0));
        Due.is("another branch at a twin", 1, () -> x.fetch(1, 1));
        told(x, "another branch at a twin", 0, 0, 0, 0);
        Due.is("a push of a twin, limit 1", 1, () -> x.push(0, 0, 5, 0, 1) >= 0 ? 1 : 0);
        told(x, "a push of a twin", 0, 0, 0, 0);
    }

    private static void rounds() {
        Edge.says("part 8", "In a round it tells the next 4 (or as many as are left) of all its commits, listed newest first, that it "
                + "has not told and that are not known to be common as the round begins.");
        Edge.says("part 8", "If no commit is left to be told, there are no more rounds.");
        int[] rounds = {0, 1, 1, 1, 1, 2, 2, 2, 2, 3, 3, 3, 3, 4};
        for (int count = 0; count < rounds.length; count++) {
            VersionWorks x = Scenes.empty();
            row(x, 1, count);
            commit(x, 0, 0, 9999, 1);
            x.fetch(1, 240);
            told(x, count + " commits, none common", rounds[count], count, 4, 0);
        }
    }

    /** A row that both have, then commits of the receiver alone; the sender has one more. */
    private static VersionWorks both(int common, int alone) {
        VersionWorks x = Scenes.empty();
        row(x, 0, common);
        x.fetch(1, 240);
        x.reset(1, x.trackAt(1, 0), 2);
        row(x, 1, alone);
        commit(x, 0, 4, 9999, 1);
        return x;
    }

    private static void roundsWithCommonOnes() {
        Edge.says("part 8", "Then the sender answers for each of the 4 whether it has its twin: if so, it and all its ancestors are "
                + "known to be common from then on.");
        // Common ones, ones of the receiver alone, then the rounds and how many are told.
        int[][] due = {{1, 0, 1, 1}, {4, 0, 1, 4}, {5, 0, 1, 4}, {9, 0, 1, 4}, {1, 3, 1, 4}, {2, 3, 1, 4}, {9, 3, 1, 4},
            {1, 4, 2, 5}, {9, 4, 2, 8}, {5, 5, 2, 8}, {2, 7, 2, 8}, {3, 8, 3, 11}};
        for (int[] d : due) {
            VersionWorks x = both(d[0], d[1]);
            x.fetch(1, 240);
            told(x, d[0] + " common, " + d[1] + " alone", d[2], d[3], 4, 0);
        }
    }

    private static void packs() {
        Edge.says("part 8", "The pack is all objects of the sender that the wanted ones reach and that no twin of a common commit "
                + "reaches.");
        VersionWorks x = both(2, 0);
        // Path 8 gets lines that a common commit has: the blob and its folder's tree (another folder, the same names).
        int old = x.blobAt(0, x.parent(0, x.head(0), 0), 0);
        x.write(0, 8, 0);
        for (int k = 0; k < x.blobLines(0, old); k++) {
            x.insertLine(0, 8, k, x.blobLine(0, old, k));
        }
        x.add(0, 8);
        int made = x.commit(0, 1, 2);
        Due.is("the blob and its tree are reached by a common commit", 2 + 4, () -> x.wouldSend(0, made));
        x.fetch(1, 240);
        told(x, "a root and a commit, and the one ahead of it", 1, 2, 6, 0);
        Edge.says("wouldSend", "if just this commit were wanted by the other repository");
        VersionWorks y = both(3, 0);
        int top = y.head(0);
        y.branch(0, 3, commit(y, 0, 4, 9998, 2));
        Due.is("just this one", 4, () -> y.wouldSend(0, top));
        Due.is("its ancestors that are not there, too", 8, () -> y.wouldSend(0, y.head(0)));
        // What the other one has, but no commit of it reaches, is sent as a double.
        VersionWorks z = Scenes.empty();
        commit(z, 0, 0, 7, 1);
        z.write(1, 0, 7);
        z.add(1, 0);
        Due.is("all four", 4, () -> z.wouldSend(0, z.head(0)));
        z.fetch(1, 240);
        told(z, "one of them a double", 0, 0, 4, 1);
    }

    private static void orders() {
        Edge.says("part 8", "the commits of the pack by rising numbers (of the sender); ahead of each the trees and blobs of the pack "
                + "that it reaches by its root tree and that stand in no place ahead, by rising numbers; behind all commits the tag "
                + "objects of the pack, by rising numbers");
        VersionWorks x = Scenes.empty();
        x.write(0, 0, 1);
        x.write(0, 5, 2);
        x.addAll(0);
        int one = x.commit(0, 0, 1);
        int tagged = x.annotate(0, 5, one, 1);
        int two = commit(x, 0, 0, 3, 2);
        int again = x.annotate(0, 1, two, 2);
        x.fetch(1, 240);
        // Blobs, trees, root, commit; blob, tree, root, commit; tag objects. The numbers of the sender, in this order:
        int[] due = {0, 1, 2, 3, 4, one, two - 3, two - 2, two - 1, two, tagged, again};
        for (int k = 0; k < due.length; k++) {
            int sender = due[k];
            Due.is("the number of what came", k, () -> x.twin(0, sender));
        }
        told(x, "of two commits and two tag objects", 0, 0, due.length, 0);
        // Broken off at each place, the objects ahead of it have come.
        for (int limit = 1; limit < due.length; limit++) {
            VersionWorks y = Scenes.empty();
            y.write(0, 0, 1);
            y.write(0, 5, 2);
            y.addAll(0);
            y.annotate(0, 5, y.commit(0, 0, 1), 1);
            y.annotate(0, 1, commit(y, 0, 0, 3, 2), 2);
            int most = limit;
            Due.is("breaks off", NONE, () -> y.fetch(1, most));
            Due.is("as many as the limit", most, () -> y.objects(1));
            for (int k = 0; k < due.length; k++) {
                int sender = due[k];
                Due.is("what came", k < most ? k : NONE, () -> y.twin(0, sender));
            }
        }
    }

    /** A root tree without trees of folders can have the number 0: it is sent as any other one. */
    private static void orderOfNumberNone() {
        Edge.says("part 0", "a root tree has trees of folders, by the numbers of the folders, and may have none at all");
        VersionWorks x = new VersionWorks();
        x.write(0, 0, 1);
        x.addAll(0);
        x.commit(0, 1, 1);
        x.removeFile(0, 0);
        x.addAll(0);
        x.amend(0, 1, 2);
        Due.is("the tree and the commit", 1, () -> x.fetch(1, 240));
        Due.is("two objects", 2, () -> x.objects(1));
        Due.is("the tree is 0", 0, () -> x.rootTree(1, 1));
        x.startBranch(0, 1);
        x.deleteBranch(0, 0, true);
        x.expireReflog(0, 0);
        Due.is("nothing is reached there any more", 6, () -> x.collect(0, 0));
        x.reset(1, 1, 2);
        Due.is("both would be sent back", 2, () -> x.wouldSend(1, 1));
        Due.is("the tree gets 6, the commit 7", 7, () -> x.push(1, 0, 0, 0, 240));
        told(x, "both", 0, 0, 2, 0);
        Due.is("the tree first", 6, () -> x.rootTree(0, 7));
        Due.is("both repositories are sound", 2, () -> Edge.yes(x.isSound(0, 0)) + Edge.yes(x.isSound(1, 0)));
    }

    private static void limits() {
        Edge.says("part 8", "If the pack has more objects than the limit, the transfer breaks off behind as many as the limit; "
                + "otherwise it comes through.");
        for (int limit = 7; limit <= 9; limit++) {
            VersionWorks x = Scenes.empty();
            row(x, 0, 2);
            int most = limit;
            Due.is("a pack of eight", most < 8 ? NONE : 1, () -> x.fetch(1, most));
            Due.is("sent", Math.min(most, 8), () -> x.sent());
            VersionWorks y = Scenes.empty();
            row(y, 0, 2);
            Due.is("a pack of eight", most < 8 ? NONE : 7, () -> y.push(0, 0, 1, 0, most));
            Due.is("sent", Math.min(most, 8), () -> y.sent());
        }
        Edge.says("part 8", "(so its stamp is the receiver's clock, also if its twin was present)");
        VersionWorks x = Scenes.empty();
        commit(x, 0, 0, 7, 1);
        x.tick(0, 3);
        x.write(1, 9, 7);
        x.add(1, 9);
        x.tick(1, 50);
        x.fetch(1, 240);
        for (int k = 0; k < 4; k++) {
            int object = k;
            Due.is("the receiver's clock", 50, () -> x.stamp(1, object));
            Due.is("the sender's stamps stay", 0, () -> x.stamp(0, object));
        }
        Due.is("dates are not stamps", 0, () -> x.date(1, 3));
    }

    private static void tellings() {
        Edge.says("part 8", "Of the latest transfer (of fetch() and push(), in whichever repository; one that was refused is none)");
        Edge.says("part 8", "All are 0 at first.");
        told(Scenes.empty(), "at first", 0, 0, 0, 0);
        Edge.Act[] refused = {x -> x.fetch(2, 1), x -> x.fetch(0, 0), x -> x.push(0, 1, 0, 0, 240), x -> x.push(0, 0, 0, 3, 240),
            x -> x.push(0, 0, 6, 0, 240), x -> x.push(1, 2, 0, 0, 240)};
        for (Edge.Act act : refused) {
            VersionWorks x = both(5, 5);
            x.branch(1, 2, x.head(1));
            x.fetch(1, 240);
            told(x, "of a fetch", 2, 8, 4, 0);
            Due.yes("it is refused", Due.told(() -> act.on(x)).endsWith("Exception"));
            told(x, "one that was refused is none", 2, 8, 4, 0);
        }
        VersionWorks x = both(5, 5);
        x.fetch(1, 240);
        Due.state("HEAD holds it", () -> x.pushDelete(0, 0));
        x.pruneTracks(1);
        Due.is("other calls are none", 8, () -> x.told());
        VersionWorks y = both(5, 5);
        y.fetch(1, 3);
        told(y, "one that broke off is one", 2, 8, 3, 0);
    }

    // ---- to fetch

    private static void fetchedBranches() {
        Edge.says("part 8", "If it comes through each track is at the twin of the commit of the sender's branch of that number, if "
                + "that branch is there (other tracks stay)");
        VersionWorks x = Scenes.ends();
        x.deleteBranch(1, 5, true);
        x.moveBranch(1, 3, ROOT);
        Due.is("one moved", 1, () -> x.fetch(0, 240));
        Due.is("a track of a branch that is not there stays", TOP, () -> x.trackAt(0, 5));
        Due.is("the track that moved", ROOT, () -> x.trackAt(0, 3));
        x.pruneTracks(0);
        Due.is("pruned", NONE, () -> x.trackAt(0, 5));
        Due.is("the others stay", TOP, () -> x.trackAt(0, 2));
        x.branch(1, 1, SIDE);
        x.branch(1, 4, SIDE);
        x.branch(1, 5, SIDE);
        Due.is("all six tracks", 3, () -> x.fetch(0, 1));
        for (int b = 0; b < 6; b++) {
            int branch = b;
            Due.is("each at the twin", x.branchAt(1, b), () -> x.trackAt(0, branch));
        }
        Edge.says("part 8", "Wanted are the commits at which the sender's branches are, by rising numbers");
        VersionWorks y = Scenes.empty();
        row(y, 0, 1);
        y.detach(0, y.head(0));
        commit(y, 0, 0, 77, 1);
        commit(y, 0, 0, 78, 2);
        Due.is("a detached HEAD is not wanted", 1, () -> y.fetch(1, 240));
        Due.is("one commit alone", 4, () -> y.objects(1));
        y.deleteBranch(0, 0, true);
        Due.is("no branch at all", 0, () -> y.fetch(1, 240));
        Due.is("the track stays", 3, () -> y.trackAt(1, 0));
        Due.is("HEAD and branches of this one stay", NONE, () -> y.head(1));
    }

    private static void fetchedTags() {
        Edge.says("part 8", "for each tag of the sender by rising numbers, if this repository has no tag of that number, and the commit "
                + "of the sender's tag is an ancestor of a commit at which one of its branches is, the object at which it is");
        Edge.says("part 8", "and each of these tags is there, at the twin of the object at which the sender's is, also if that had a "
                + "twin already");
        VersionWorks x = Scenes.ends();
        x.tag(1, 1, TOP);
        int object = x.annotate(1, 2, SIDE, 7);
        x.deleteTag(1, 0);
        x.annotate(1, 0, ROOT, 9);
        x.detach(1, TOP);
        int apart = commit(x, 1, 7, 881, 1);
        x.tag(1, 3, apart);
        x.annotate(1, 4, apart, 3);
        Due.is("two tags", 2, () -> x.fetch(0, 240));
        Due.is("at a commit that had a twin", TOP, () -> x.tagAt(0, 1));
        Due.is("at a tag object that came", x.twin(1, object), () -> x.tagAt(0, 2));
        Due.is("of no branch's history", NONE, () -> x.tagAt(0, 3));
        Due.is("of no branch's history", NONE, () -> x.tagAt(0, 4));
        Due.is("a tag that is there stays", Scenes.TAGGED, () -> x.tagAt(0, 0));
        Due.is("one object was sent", 1, () -> x.sent());
        x.branch(1, 4, apart);
        Due.is("a track and two tags", 3, () -> x.fetch(0, 240));
        Due.is("of the branch's own commit", x.twin(1, apart), () -> x.tagAt(0, 3));
        x.deleteTag(0, 3);
        Due.is("again", 1, () -> x.fetch(0, 1));
        Due.is("nothing is sent for it", 0, () -> x.sent());
    }

    private static void brokenOff() {
        Edge.says("part 8", "If the transfer breaks off all refs stay.");
        VersionWorks x = Scenes.ends();
        x.branch(1, 1, ROOT);
        x.tag(1, 1, ROOT);
        commit(x, 1, 7, 881, 1);
        String before = Whole.of(x, 0).replaceAll("(?s)path 0.*", "");
        Due.is("breaks off", NONE, () -> x.fetch(0, 3));
        Due.same("all refs stay", before, Whole.of(x, 0).replaceAll("(?s)path 0.*", ""));
        Due.is("everything stays that came", Scenes.COUNT + 3, () -> x.objects(0));
        Due.is("comes through", 3, () -> x.fetch(0, 4));
        VersionWorks y = Scenes.ends();
        commit(y, 0, 7, 881, 1);
        String refs = Whole.of(y, 0) + Whole.of(y, 1).replaceAll("(?s)path 0.*", "");
        Due.is("a push that breaks off", NONE, () -> y.push(0, 2, 2, 0, 3));
        Due.same("all refs stay", refs, Whole.of(y, 0) + Whole.of(y, 1).replaceAll("(?s)path 0.*", ""));
        Due.is("the files stay", 7, () -> y.fileLine(1, 7, 1));
    }

    // ---- to push

    private static void plainPushes() {
        Edge.says("part 8", "A plain push asks that the other repository's branch is not there, or that its commit has a twin here that "
                + "is an ancestor of the commit that is pushed. A forced one does not ask that.");
        Due.is("not there", TOP, () -> Scenes.ends().push(0, 2, 1, 0, 240));
        Due.is("the commit itself", TOP, () -> Scenes.ends().push(0, 2, 5, 0, 240));
        Due.is("an ancestor", TOP, () -> Scenes.ends().push(0, 2, 0, 0, 240));
        Due.state("a descendant", () -> Scenes.ends().push(0, 0, 5, 0, 240));
        Due.state("one beside", () -> Scenes.ends().push(0, 2, 3, 0, 240));
        Due.is("a descendant, forced", ROOT, () -> Scenes.ends().push(0, 0, 5, 1, 240));
        Due.is("one beside, forced", TOP, () -> Scenes.ends().push(0, 2, 3, 1, 240));
        VersionWorks x = Scenes.ends();
        x.detach(1, ROOT);
        x.moveBranch(1, 3, commit(x, 1, 7, 881, 1));
        Due.state("no twin here", () -> x.push(0, 3, 3, 0, 240));
        Due.is("forced", SIDE, () -> x.push(0, 3, 3, 1, 240));
    }

    private static void leases() {
        Edge.says("part 8", "neither of the two is there, or both are, and their commits are twins");
        Due.is("neither is there", TOP, () -> Scenes.ends().push(0, 2, 1, 2, 240));
        Due.is("both are, and are twins, also if no ancestor", ROOT, () -> Scenes.ends().push(0, 0, 5, 2, 240));
        VersionWorks x = Scenes.ends();
        x.branch(1, 1, ROOT);
        Due.state("the branch alone is there", () -> x.push(0, 2, 1, 2, 240));
        VersionWorks y = Scenes.ends();
        y.deleteBranch(1, 5, true);
        Due.state("the track alone is there", () -> y.push(0, 2, 5, 2, 240));
        Due.is("a plain one", TOP, () -> y.push(0, 2, 5, 0, 240));
        VersionWorks z = Scenes.ends();
        z.moveBranch(1, 0, TOP);
        Due.state("another commit", () -> z.push(0, 2, 0, 2, 240));
        Due.is("forced", TOP, () -> z.push(0, 2, 0, 1, 240));
        VersionWorks w = Scenes.ends();
        w.detach(1, ROOT);
        w.moveBranch(1, 3, commit(w, 1, 7, 881, 1));
        Due.state("a commit without a twin", () -> w.push(0, 3, 3, 2, 240));
        Due.state("it cannot be deleted", () -> w.pushDelete(0, 3));
    }

    private static void pushesToHead() {
        Edge.says("part 8", "If the other repository's HEAD is on that branch (it may be unborn), each of the three asks, besides, that "
                + "it is not busy, that its index tells its head snapshot, and that its index and files can be carried from there to "
                + "the snapshot that is pushed (blobs being told by their lines).");
        for (int how = 0; how <= 2; how++) {
            int h = how;
            Edge.Scene more = () -> {
                VersionWorks x = Scenes.ends();
                commit(x, 0, 7, 881, 1);
                return x;
            };
            Due.is("pushed", Scenes.COUNT + 3, () -> more.make().push(0, 2, 2, h, 240));
            Edge.refused("busy", Due.STATE, () -> {
                VersionWorks x = more.make();
                x.merge(1, SIDE, 0, 0, 1, 1);
                return x;
            }, x -> x.push(0, 2, 2, h, 240));
            Edge.refused("busy, though the index tells the head snapshot", Due.STATE, () -> {
                VersionWorks x = more.make();
                x.merge(1, SIDE, 0, 0, 1, 1);
                for (int p = 0; p < 16; p++) {
                    x.unstage(1, p);
                }
                return x;
            }, x -> x.push(0, 2, 2, h, 240));
            Edge.refused("the index tells another", Due.STATE, () -> {
                VersionWorks x = more.make();
                x.add(1, 11);
                return x;
            }, x -> x.push(0, 2, 2, h, 240));
            Edge.refused("a conflict", Due.STATE, () -> {
                VersionWorks x = Scenes.clashed();
                x.push(1, 2, 4, 1, 240);
                x.reset(0, x.branchAt(0, 4), 2);
                commit(x, 0, 8, 881, 1);
                x.branch(0, 1, x.head(0));
                return x;
            }, x -> x.push(0, 1, 2, h == 2 ? 1 : h, 240));
            Edge.refused("a file that is not as the index", Due.STATE, () -> {
                VersionWorks x = more.make();
                x.write(1, 7, 5);
                return x;
            }, x -> x.push(0, 2, 2, h, 240));
            Edge.refused("also if it has the lines that are pushed", Due.STATE, () -> {
                VersionWorks x = more.make();
                x.write(1, 7, 881);
                return x;
            }, x -> x.push(0, 2, 2, h, 240));
            Due.is("another path may differ", Scenes.COUNT + 3, () -> {
                VersionWorks x = more.make();
                x.write(1, 0, 5);
                return x.push(0, 2, 2, h, 240);
            });
            Due.is("another branch of a busy one", Scenes.COUNT + 3, () -> {
                VersionWorks x = more.make();
                x.merge(1, SIDE, 0, 0, 1, 1);
                return x.push(0, 2, 1, h, 240);
            });
        }
        // The same lines as another blob number: nothing is to be carried there.
        VersionWorks y = Scenes.empty();
        y.write(0, 3, 1);
        y.add(0, 3);
        y.unstage(0, 3);
        y.removeFile(0, 3);
        commit(y, 1, 0, 7, 1);
        y.push(1, 0, 1, 0, 240);
        y.detach(0, y.branchAt(0, 1));
        commit(y, 0, 4, 4, 2);
        y.branch(0, 2, y.head(0));
        y.write(1, 0, 3);
        Due.yes("other numbers", y.blobAt(0, y.head(0), 0) != y.blobAt(1, y.head(1), 0));
        Due.yes("a file that differs where both have the same lines", y.push(0, 2, 0, 1, 240) > 0);
        Due.is("the file stays", 3, () -> y.fileLine(1, 0, 0));
        Due.is("the other path came", 4, () -> y.fileLine(1, 4, 0));
    }

    private static void pushesThatAreOver() {
        Edge.says("part 8", "If it comes through the other repository's branch is at the twin of the commit that was pushed, and is "
                + "there, if it was not; this repository's track of that number is at the commit itself. If the other repository's "
                + "HEAD is on that branch, its index and files are carried from its head snapshot of before to that of the commit, and "
                + "HEAD is moved to the commit by the act 8.");
        VersionWorks x = Scenes.empty();
        row(x, 0, 2);
        x.tick(1, 9);
        Due.is("to an unborn branch on which HEAD is", 7, () -> x.push(0, 0, 0, 0, 240));
        Due.is("it is there", 7, () -> x.head(1));
        Due.is("its files", 4, () -> x.fileLines(1, 0));
        Due.is("its index", 0, () -> x.staged(1, 0));
        Due.is("an entry", 1, () -> x.reflog(1));
        Due.is("the act", 8, () -> x.reflogAct(1, 0));
        Due.is("its clock", 9, () -> x.reflogDate(1, 0));
        Due.is("the track", x.head(0), () -> x.trackAt(0, 0));
        Due.is("no entry here", 2, () -> x.reflog(0));
        Due.is("the same again", 7, () -> x.push(0, 0, 0, 2, 1));
        Due.is("one more entry, though HEAD was there", 2, () -> x.reflog(1));
        Due.is("to another branch", 7, () -> x.push(0, 0, 5, 2, 1));
        Due.is("no entry there", 2, () -> x.reflog(1));
        Due.is("the branch is there", 7, () -> x.branchAt(1, 5));
        VersionWorks y = Scenes.ends();
        y.detach(1, ROOT);
        Due.is("HEAD detached is on no branch", SIDE, () -> y.push(0, 3, 2, 1, 240));
        Due.is("it stays", ROOT, () -> y.head(1));
        Due.is("the files stay", 5, () -> y.fileLines(1, 0));
    }

    private static void deletes() {
        Edge.says("part 8", "asks that it is there, that it is where this repository's track of that number says, and that the other "
                + "repository's HEAD does not hold it. The branch, and the track, are not there any more.");
        VersionWorks x = Scenes.ends();
        Due.is("deleted", TOP, () -> x.pushDelete(0, 5));
        Due.is("the branch", NONE, () -> x.branchAt(1, 5));
        Due.is("the track", NONE, () -> x.trackAt(0, 5));
        Due.is("its own branch stays", TOP, () -> x.branchAt(0, 5));
        Due.state("again: not there", () -> x.pushDelete(0, 5));
        Due.state("HEAD is on it", () -> x.pushDelete(0, 2));
        x.detach(1, TOP);
        Due.is("HEAD has left it", TOP, () -> x.pushDelete(0, 2));
        VersionWorks y = Scenes.unborn();
        Due.state("an unborn branch is not there", () -> y.pushDelete(0, 1));
    }

    private static void twins() {
        Edge.says("part 8", "each two objects of the two repositories whose numbers twin() tells have parts whose numbers twin() tells, "
                + "one by one, and twin() back tells the object itself");
        VersionWorks x = Scenes.ends();
        x.write(0, 1, 3);
        x.add(0, 1);
        commit(x, 0, 7, 881, 1);
        x.fetch(1, 22);
        x.collect(1, 0);
        int known = 0;
        for (int o = 0; o < x.objects(0); o++) {
            int twin = x.kind(0, o) == NONE ? NONE : x.twin(0, o);
            if (twin != NONE) {
                known++;
                int object = o;
                Due.is("back", o, () -> x.twin(1, twin));
                Due.is("of the same kind", x.kind(0, o), () -> x.kind(1, twin));
                if (x.kind(0, o) == 2) {
                    Due.is("its root", x.rootTree(1, twin), () -> x.twin(0, x.rootTree(0, object)));
                }
            }
        }
        Due.yes("many have one", known > 20);
    }
}
