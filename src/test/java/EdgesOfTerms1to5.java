/** The sentences of the parts 1 to 5 of the terms that name a boundary. */
final class EdgesOfTerms1to5 {
    private static final int NONE = VersionWorks.NONE;

    public static void main(String[] args) {
        ignored();
        blobsOfSnapshots();
        adds();
        commits();
        amends();
        heldBranches();
        switches();
        resets();
        generations();
        bases();
        aheads();
        describes();
        texts();
        faults();
        names();
        steps();
        textLists();
        Edge.end("EdgesOfTerms1to5");
    }

    private static int commit(VersionWorks x, int path, long digits, int message) {
        return Scenes.commit(x, 0, path, digits, message);
    }

    private static void ignored() {
        Edge.says("part 1", "Neither touches the index");
        VersionWorks w = Scenes.ends();
        w.write(0, 0, 5);
        Due.is("the index stays", 0, () -> w.staged(0, 0));
        w.insertLine(0, 0, 0, 5);
        Due.is("the index stays", 0, () -> w.staged(0, 0));
        Edge.says("part 1", "A path can be ignored (none is at first): addAll() and clean() pass over an ignored path that is "
                + "not tracked; every other method takes it as any path");
        VersionWorks x = Scenes.ends();
        for (int p = 0; p < 16; p++) {
            int path = p;
            Due.is("none at first", 0, () -> Edge.yes(x.ignore(0, path, true)));
            Due.is("each by itself, in each repository", 0, () -> Edge.yes(x.ignore(1, path, false)));
        }
        x.write(0, 0, 5);
        Due.is("addAll passes over path 11, which is not tracked, not over path 0, which is", 1, () -> x.addAll(0));
        Due.is("path 11", NONE, () -> x.indexed(0, 11));
        Due.is("clean passes over it", 0, () -> x.clean(0));
        Due.is("the file stays", 1, () -> x.fileLines(0, 11));
        Due.is("add does not", 1, () -> x.add(0, 11) >= 0 ? 1 : 0);
        x.write(0, 11, 44);
        Due.is("now it is tracked", 1, () -> x.addAll(0));
        Due.is("moveFile does not", 2, () -> x.moveFile(0, 11, 1));
        Due.is("removeFile does not", 2, () -> x.removeFile(0, 1));
        x.unstage(0, 11);
        x.reset(0, Scenes.TOP, 2);
        Due.is("to carry does not", Scenes.TOP, () -> x.detach(0, Scenes.SIDE));
        Due.is("the file", 1, () -> x.fileLines(0, 8));
        x.write(0, 1, 3);
        Due.is("not ignored any more", 1, () -> Edge.yes(x.ignore(0, 1, false)));
        Due.is("clean takes it", 1, () -> x.clean(0));
        VersionWorks y = Scenes.clashed();
        y.ignore(0, 7, true);
        Due.is("a conflict is tracked", 1, () -> y.addAll(0) > 0 && y.indexed(0, 7) != NONE ? 1 : 0);
        VersionWorks z = new VersionWorks();
        z.ignore(0, 0, true);
        z.write(0, 0, 1);
        z.add(0, 0);
        z.removeFile(0, 0);
        Due.is("tracked, ignored, without a file", 1, () -> z.addAll(0));
        Edge.says("part 1", "The part is sound, if each file has 0 to 60 lines, each of them 1 to 102");
        Due.is("with marks", 1, () -> Edge.yes(Scenes.stopped().isSound(0, 1)));
    }

    private static void blobsOfSnapshots() {
        Edge.says("part 2", "A commit tells for each path the blob of its snapshot: the entry of the path's name in the tree that "
                + "is the entry of the path's folder in its root tree");
        VersionWorks x = Scenes.ends();
        for (int p = 0; p < 16; p++) {
            int tree = x.entry(0, x.rootTree(0, Scenes.TOP), p / 4);
            int due = tree == NONE ? NONE : x.entry(0, tree, p % 4);
            int path = p;
            Due.is("blobAt " + p, due, () -> x.blobAt(0, Scenes.TOP, path));
        }
        Edge.says("part 2", "every other method of this part wants an object that is present, of the kind that it names");
        Edge.refused("a collected one", Due.INDEX, Scenes::ends, y -> y.stamp(0, Scenes.GONE));
        Edge.refused("a collected one", Due.INDEX, Scenes::ends, y -> y.blobLines(0, Scenes.GONE));
        Edge.refused("a collected one", Due.INDEX, Scenes::ends, y -> y.blobLine(0, Scenes.GONE, 0));
        Edge.refused("a collected one", Due.INDEX, Scenes::ends, y -> y.twin(0, Scenes.GONE));
    }

    private static void adds() {
        Edge.says("part 3", "if there is none, the index has nothing there");
        VersionWorks x = Scenes.ends();
        x.removeFile(0, 0);
        Due.is("no file", NONE, () -> x.add(0, 0));
        Due.is("nothing", 3, () -> x.staged(0, 0));
        Edge.says("part 3", "A conflict there is over by that, whatever the lines are; marks of conflicts can be among them");
        VersionWorks y = Scenes.stopped();
        Due.is("the row with its marks", 10, () -> y.blobLines(0, y.add(0, 0)));
        Due.is("the mark", 100, () -> y.blobLine(0, y.indexed(0, 0), 5));
        Due.is("over", 2, () -> y.staged(0, 0));
        y.removeFile(0, 15);
        Due.is("without a file, too", NONE, () -> y.add(0, 15));
        Due.is("over", 3, () -> y.staged(0, 15));
        Due.is("no stage any more", NONE, () -> y.stage(0, 15, 0));
        Due.is("with marks it is committed", 2, () -> y.proceed(0));
    }

    private static void commits() {
        Edge.says("part 3", "the snapshot that the index tells is stored, never the files");
        VersionWorks x = Scenes.ends();
        x.write(0, 0, 5);
        x.add(0, 0);
        x.write(0, 0, 6);
        x.removeFile(0, 15);
        int made = x.commit(0, 1, 1);
        Due.is("the index, not the file", 5, () -> x.blobLine(0, x.blobAt(0, made, 0), 0));
        Due.is("the index, though there is no file", 6, () -> x.blobLines(0, x.blobAt(0, made, 15)));
        Due.is("no file that is not tracked", NONE, () -> x.blobAt(0, made, 11));
        Due.is("the files stay", 6, () -> x.fileLine(0, 0, 0));
        Edge.says("part 3", "its parent being the head commit, if there is one");
        Due.is("its parent", Scenes.TOP, () -> x.parent(0, made, 0));
        VersionWorks y = Scenes.unborn();
        int root = y.commit(0, 1, 1);
        Due.is("no parent", NONE, () -> y.parent(0, root, 0));
        Edge.says("part 3", "(A commit with two parents comes by part 7 alone.)");
        Due.is("no second one", NONE, () -> y.parent(0, root, 1));
        Due.is("no second one", NONE, () -> x.parent(0, made, 1));
    }

    private static void amends() {
        Edge.says("part 3", "then a commit with that root tree and the parents of the head commit");
        VersionWorks x = Scenes.ends();
        x.switchTo(0, 0);
        Due.is("of none", NONE, () -> x.parent(0, x.amend(0, 5, 5), 0));
        x.switchTo(0, 5);
        Due.is("of one", Scenes.ROOT, () -> x.parent(0, x.amend(0, 5, 5), 0));
        x.switchTo(0, 2);
        x.merge(0, Scenes.SIDE, 0, 2, 0, 0);
        int merged = x.head(0);
        int amended = x.amend(0, 5, 5);
        Due.is("of two, the first", Scenes.TOP, () -> x.parent(0, amended, 0));
        Due.is("of two, the second", Scenes.SIDE, () -> x.parent(0, amended, 1));
        Edge.says("part 3", "The commit that was the head commit stays present, till it is collected");
        Due.is("present", 2, () -> x.kind(0, merged));
        x.expireReflog(0, 0);
        x.collect(0, 0);
        Due.is("collected", NONE, () -> x.kind(0, merged));
        Edge.says("part 3", "both can come to a commit that is present already, and HEAD may be at it");
        Due.is("amend to the commit at which HEAD is", amended, () -> x.amend(0, 5, 5));
        VersionWorks y = Scenes.ends();
        y.write(0, 0, 5);
        y.add(0, 0);
        int one = y.commit(0, 1, 1);
        y.reset(0, Scenes.TOP, 0);
        y.tick(0, 1);
        Due.is("not by another date", 1, () -> y.commit(0, 1, 1) != one ? 1 : 0);
        VersionWorks z = Scenes.ends();
        z.write(0, 0, 5);
        z.add(0, 0);
        int two = z.commit(0, 1, 1);
        z.reset(0, Scenes.TOP, 0);
        Due.is("commit to a commit that is present", two, () -> z.commit(0, 1, 1));
        Edge.says("part 3", "each conflict has two stages at least that are not none");
        Due.is("with one stage none", 1, () -> Edge.yes(Scenes.reverting().isSound(0, 3)));
    }

    private static void heldBranches() {
        Edge.says("part 4", "HEAD holds a branch, if HEAD is on it, or a rebase is in progress that began on it");
        VersionWorks x = Scenes.rebasing();
        Due.state("it began on it", () -> x.moveBranch(0, 3, Scenes.ROOT));
        Due.state("it began on it", () -> x.deleteBranch(0, 3, true));
        Due.is("not held", Scenes.TOP, () -> x.moveBranch(0, 2, Scenes.TOP));
        x.abort(0);
        x.switchTo(0, 2);
        Due.is("not held any more", 1, () -> x.moveBranch(0, 3, Scenes.ROOT) > 0 ? 1 : 0);
        VersionWorks y = Scenes.stopped();
        Due.state("in a merge HEAD is on it", () -> y.moveBranch(0, 2, Scenes.ROOT));
        Due.is("in a merge others are not held", Scenes.SIDE, () -> y.moveBranch(0, 3, Scenes.ROOT));
    }

    private static void switches() {
        Edge.says("part 4", "is put in front of the reflog, also if HEAD was there already");
        VersionWorks x = Scenes.ends();
        int entries = x.reflog(0);
        x.switchTo(0, 2);
        Due.is("on the branch already", entries + 1, () -> x.reflog(0));
        Due.is("its act", 2, () -> x.reflogAct(0, 0));
        x.detach(0, Scenes.TOP);
        Due.is("detached", entries + 2, () -> x.reflog(0));
        x.detach(0, Scenes.TOP);
        Due.is("detached there already", entries + 3, () -> x.reflog(0));
        Edge.says("part 4", "then HEAD is on the branch, or detached at the commit");
        Due.is("detached", NONE, () -> x.headBranch(0));
        x.switchTo(0, 5);
        Due.is("on the branch of the same commit", 5, () -> x.headBranch(0));
        VersionWorks y = Scenes.ends();
        y.startBranch(0, 1);
        Due.is("from an unborn branch, over the index of its commit", Scenes.TOP, () -> y.switchTo(0, 2));
        Due.is("the branch that was unborn is not there", NONE, () -> y.branchAt(0, 1));
    }

    private static void resets() {
        Edge.says("part 4", "A soft one leaves the index and the files; a mixed one lets the index have the snapshot of the "
                + "commit, and leaves the files; a hard one forces the index and the files to the snapshot of the commit");
        for (int how = 0; how <= 2; how++) {
            VersionWorks x = Scenes.ends();
            x.write(0, 0, 6);
            x.add(0, 11);
            int before = x.indexed(0, 0);
            x.reset(0, Scenes.ROOT, how);
            Due.is("HEAD", Scenes.ROOT, () -> x.head(0));
            Due.is("the index", how == 0 ? before : Scenes.BLOB, () -> x.indexed(0, 0));
            Due.is("the file", how == 2 ? 5 : 1, () -> x.fileLines(0, 0));
            Due.is("a path that the commit has not: the index", how == 0 ? 1 : 0,
                    () -> x.indexed(0, 11) != NONE ? 1 : 0);
            Due.is("a path that the commit has not: the file", how == 2 ? NONE : 1, () -> x.fileLines(0, 11));
            Due.is("its act", 3, () -> x.reflogAct(0, 0));
        }
        Edge.says("part 4", "To reset is to move HEAD to a commit by the act 3");
        VersionWorks y = Scenes.unborn();
        y.reset(0, Scenes.SIDE, 0);
        Due.is("an unborn branch is there then", Scenes.SIDE, () -> y.branchAt(0, 1));
    }

    // ---- history

    private static void generations() {
        Edge.says("part 5", "The generation of a commit is 1 if it has no parent, otherwise 1 more than the greatest of its "
                + "parents");
        VersionWorks x = Scenes.ends();
        Due.is("no parent", 1, () -> x.generation(0, Scenes.ROOT));
        Due.is("one parent", 2, () -> x.generation(0, Scenes.TOP));
        x.merge(0, Scenes.ROOT, 1, 0, 0, 0);
        x.detach(0, Scenes.SIDE);
        int one = commit(x, 7, 1, 1);
        int two = commit(x, 7, 2, 2);
        x.merge(0, Scenes.TOP, 1, 1, 0, 0);
        Due.is("the greatest is the first", 5, () -> x.generation(0, x.head(0)));
        x.detach(0, Scenes.TOP);
        x.merge(0, two, 1, 1, 0, 0);
        Due.is("the greatest is the second", 5, () -> x.generation(0, x.head(0)));
        Due.is("one", 3, () -> x.generation(0, one));
    }

    private static void bases() {
        Edge.says("part 5", "(If one of the two is an ancestor of the other one, it is the only merge base.)");
        VersionWorks x = Scenes.ends();
        Due.is("an ancestor", 1, () -> x.bases(0, Scenes.TOP, Scenes.ROOT));
        Due.is("it", Scenes.ROOT, () -> x.base(0, Scenes.TOP, Scenes.ROOT, 0));
        Due.is("the other way", Scenes.ROOT, () -> x.base(0, Scenes.ROOT, Scenes.TOP, 0));
        Due.is("itself", Scenes.TOP, () -> x.base(0, Scenes.TOP, Scenes.TOP, 0));
        Edge.says("part all", "The merge bases of two commits are exactly those of their common ancestors from which no other "
                + "common ancestor descends; where there is one common ancestor at least, there is one merge base at least");
        x.detach(0, Scenes.TOP);
        x.merge(0, Scenes.SIDE, 1, 1, 0, 1);
        int one = x.head(0);
        x.detach(0, Scenes.SIDE);
        x.merge(0, Scenes.TOP, 1, 1, 0, 2);
        int two = x.head(0);
        Due.is("two of a criss-cross", 2, () -> x.bases(0, one, two));
        Due.is("newest first", Scenes.SIDE, () -> x.base(0, one, two, 0));
        Due.is("then", Scenes.TOP, () -> x.base(0, one, two, 1));
        Due.index("no third", () -> x.base(0, one, two, 2));
        Due.is("the root is none of them", 1, () -> x.bases(0, Scenes.TOP, Scenes.SIDE));
    }

    private static void aheads() {
        Edge.says("part 5", "One commit is ahead of another one by as many commits as are ancestors of the first and not of the "
                + "second");
        VersionWorks x = Scenes.ends();
        Due.is("itself", 0, () -> x.ahead(0, Scenes.TOP, Scenes.TOP));
        Due.is("of its parent", 1, () -> x.ahead(0, Scenes.TOP, Scenes.ROOT));
        Due.is("of its child", 0, () -> x.ahead(0, Scenes.ROOT, Scenes.TOP));
        Due.is("of one beside it", 1, () -> x.ahead(0, Scenes.TOP, Scenes.SIDE));
        x.merge(0, Scenes.SIDE, 1, 1, 0, 0);
        Due.is("a merge of its parent", 2, () -> x.ahead(0, x.head(0), Scenes.TOP));
    }

    private static void describes() {
        Edge.says("part 5", "of the tags that are there and whose commit is an ancestor of it, the tag to whose commit it is "
                + "ahead by the fewest; of several that whose commit has the greatest date, then that with the least number");
        VersionWorks x = Scenes.bare();
        x.tag(0, 4, Scenes.TOP);
        Due.is("itself", 4, () -> x.describe(0, Scenes.TOP));
        Due.is("none for its parent", NONE, () -> x.describe(0, Scenes.ROOT));
        x.annotate(0, 3, Scenes.TOP, 1);
        Due.is("of two of the same commit the least number", 3, () -> x.describe(0, Scenes.TOP));
        x.tag(0, 0, Scenes.ROOT);
        Due.is("not the one further away", 3, () -> x.describe(0, Scenes.TOP));
        // Two sides of one commit each, then a merge: it is ahead of both by two; the later one is of another date.
        VersionWorks y = new VersionWorks();
        int root = commit(y, 0, 1, 1);
        int early = commit(y, 0, 2, 2);
        y.detach(0, root);
        y.tick(0, 1);
        int late = commit(y, 4, 3, 3);
        y.merge(0, early, 1, 0, 0, 0);
        y.tag(0, 1, early);
        y.tag(0, 2, late);
        Due.is("ahead of both by as many", y.ahead(0, y.head(0), early), () -> y.ahead(0, y.head(0), late));
        Due.is("the greatest date", 2, () -> y.describe(0, y.head(0)));
        y.tag(0, 0, root);
        Due.is("still", 2, () -> y.describe(0, y.head(0)));
        y.deleteTag(0, 2);
        Due.is("the other", 1, () -> y.describe(0, y.head(0)));
        y.deleteTag(0, 1);
        Due.is("the root", 0, () -> y.describe(0, y.head(0)));
        y.deleteTag(0, 0);
        Due.is("none is there", NONE, () -> y.describe(0, y.head(0)));
    }

    // ---- texts

    private static void texts() {
        Edge.says("part 5", "The text is a row of at most 60 characters, their codes 33 to 126, empty at first; there is one for "
                + "both repositories, and it stays until it is cleared");
        VersionWorks x = Scenes.ends();
        Due.is("empty at first", 0, () -> x.clearText());
        Due.is("33", 1, () -> x.type(33));
        Due.is("126", 2, () -> x.type(126));
        Due.argument("32", () -> x.type(32));
        Due.argument("127", () -> x.type(127));
        for (int k = 3; k <= 60; k++) {
            int due = k;
            Due.is("up to 60", due, () -> x.type('H'));
        }
        Due.state("a 61st", () -> x.type('H'));
        Due.argument("a 61st that is out of range", () -> x.type(127));
        Due.is("60", 60, () -> x.clearText());
        Scenes.typed(x, "B2");
        x.rehearse(0, 5, 40);
        Due.is("it stays", NONE, () -> x.fault());
        Due.is("of the one repository", x.branchAt(0, 2), () -> x.resolve(0));
        Due.is("and of the other", x.branchAt(1, 2), () -> x.resolve(1));
    }

    private static void faults() {
        Edge.says("part 5", "The fault of the text is the place, from 0, of the first character with which, behind those ahead of "
                + "it, no text of revisions goes on; if there is none, but the text is none as it is, its length; NONE, if it "
                + "is one");
        Edge.says("part 5", "Digits that can belong to what stands ahead of them do");
        // The place at which each of these texts has its fault; -1 for a text of revisions.
        String[] due = {
            "", "0", "H", "-1", "B", "1", "T", "1", "R", "1", "h", "0", "b", "0", "0", "0", "@", "0", "~", "0", "^", "0",
            ".", "0", "B0", "-1", "B5", "-1", "B6", "1", "B9", "1", "B/", "1", "B:", "1", "B00", "2", "B55", "2",
            "T5", "-1", "T6", "1", "R5", "-1", "R6", "1", "BH", "1", "B.", "1", "B~", "1", "B@", "1", "B0@", "2",
            "H@", "2", "H@0", "-1", "H@9", "-1", "H@00", "-1", "H@99", "-1", "H@000", "4", "H@a", "2", "H@/", "2",
            "H@:", "2", "H@~", "2", "H@@", "2", "H@0@", "3", "H0", "1", "H5", "1", "HH", "1", "HB", "1",
            "H~", "-1", "H~0", "-1", "H~9", "-1", "H~00", "-1", "H~99", "-1", "H~000", "4", "H~/", "2", "H~:", "2",
            "H~~", "-1", "H~^", "-1", "H~@", "2", "H~B", "2", "H~1~22~3^", "-1", "B0~1", "-1", "T0~11", "-1",
            "H^", "-1", "H^0", "-1", "H^1", "-1", "H^2", "-1", "H^3", "2", "H^9", "2", "H^/", "2", "H^00", "3", "H^12", "3",
            "H^^", "-1", "H^~", "-1", "H^2~", "-1", "H^@", "2", "H@1^", "-1", "H@11~", "-1", "H@1~1", "-1",
            "H.", "2", "H..", "3", "H...", "4", "H....", "4", "H.H", "2", "H..H", "-1", "H...H", "-1", "H..B", "4",
            "H..B0", "-1", "H..B6", "4", "H...B", "5", "H..~", "3", "H...~", "4", "H..h", "3", "H..0", "3", "H.~", "2",
            "H..H.", "4", "H..H..", "4", "H...H.", "5", "H..H..H", "4", "H..H~1^2", "-1", "H~..H^", "-1", "H@1..H@22", "-1",
            "H@1..H@222", "9", "H~1.", "4", "B0..T5", "-1", "R0...R5", "-1", "H!", "1", "!", "0", "~H", "0", "H..!", "3",
        };
        VersionWorks x = Scenes.empty();
        for (int k = 0; k < due.length; k += 2) {
            Scenes.typed(x, due[k]);
            Due.is("fault of " + due[k], due[k + 1], () -> x.fault());
        }
        Scenes.typed(x, "H" + "~".repeat(59));
        Due.is("60 characters without a fault", NONE, () -> x.fault());
        Scenes.typed(x, "H" + "~".repeat(58) + ".");
        Due.is("60 characters that are a beginning only", 60, () -> x.fault());
        Scenes.typed(x, "H" + "~".repeat(58) + "@");
        Due.is("the last of 60 characters", 59, () -> x.fault());
    }

    private static void names() {
        Edge.says("part 5", "H is the head commit; H@n is the commit of the entry n of the reflog; B, T and R are the commits of "
                + "that branch, tag and track; if there is none, the revision names none");
        Object[] named = {
            "H", Scenes.TOP, "H@0", Scenes.TOP, "H@00", Scenes.TOP, "H@4", Scenes.ROOT, "H@04", Scenes.ROOT, "H@5", NONE,
            "H@05", NONE, "H@30", NONE, "H@99", NONE, "H@1", Scenes.SIDE, "B0", Scenes.ROOT, "B1", NONE, "B2", Scenes.TOP,
            "B3", Scenes.SIDE, "B5", Scenes.TOP, "T0", Scenes.TOP, "T1", NONE, "T5", Scenes.ROOT, "R0", Scenes.ROOT,
            "R1", NONE, "R5", Scenes.TOP,
        };
        names(Scenes.ends(), named);
        names(Scenes.unborn(), new Object[] {"H", NONE, "H^0", NONE, "H~0", NONE, "H@0", Scenes.TOP, "B1", NONE});
        names(Scenes.empty(), new Object[] {"H", NONE, "H@0", NONE, "B0", NONE, "T0", NONE, "R0", NONE});
    }

    private static void names(VersionWorks x, Object[] named) {
        for (int k = 0; k < named.length; k += 2) {
            Scenes.typed(x, (String) named[k]);
            Object due = named[k + 1].equals(NONE) ? Due.STATE : named[k + 1];
            Due.is("resolve " + named[k], due, () -> x.resolve(0));
        }
    }

    private static void steps() {
        Edge.says("part 5", "~n goes to the first parent n times (once, if there is no n; 0 stays); ^1, or ^ alone, goes to the "
                + "first parent, ^2 to the second one, ^0 stays; if there is no such parent, the revision names none");
        VersionWorks x = Scenes.line(13);
        int[] c = new int[14];
        for (int k = 13, at = x.head(0); k >= 1; k--) {
            c[k] = at;
            at = x.parent(0, at, 0);
        }
        names(x, new Object[] {
            "H~", c[12], "H~0", c[13], "H~00", c[13], "H~1", c[12], "H~01", c[12], "H~9", c[4], "H~10", c[3], "H~12", c[1],
            "H~13", NONE, "H~99", NONE, "H~~", c[11], "H~6~6", c[1], "H~6~7", NONE, "H~13~0", NONE, "H^", c[12], "H^1", c[12],
            "H^0", c[13], "H^2", NONE, "H^2^0", NONE, "H^^", c[11], "H^0^0~0", c[13], "H~12^", NONE, "H~12^0", c[1],
            "H~1^1", c[11], "H@1", c[12], "H@12", c[1], "H@13", NONE, "H@1~11", c[1], "H@1~12", NONE,
        });
        VersionWorks y = Scenes.ends();
        y.merge(0, Scenes.SIDE, 1, 1, 0, 0);
        names(y, new Object[] {"H^", Scenes.TOP, "H^1", Scenes.TOP, "H^2", Scenes.SIDE, "H~", Scenes.TOP, "H~1", Scenes.TOP,
            "H^2^", Scenes.ROOT, "H^2^2", NONE, "H~2", Scenes.ROOT, "H^2~1", Scenes.ROOT, "H^2~2", NONE, "H^0^2", Scenes.SIDE});
    }

    private static String list(VersionWorks x, String text) {
        Scenes.typed(x, text);
        int count = x.list(0);
        StringBuilder out = new StringBuilder();
        for (int k = 0; k < count; k++) {
            out.append(k == 0 ? "" : " ").append(x.listed(0, k));
        }
        Due.is("behind the last", NONE, () -> x.listed(0, count));
        return out.toString();
    }

    private static void textLists() {
        Edge.says("part 5", "A text of one revision lists all ancestors of its commit. With .. it lists the ancestors of the "
                + "second commit that are none of the first one; with ... the commits that are ancestors of one of the two, but "
                + "not of both");
        int root = Scenes.ROOT;
        int top = Scenes.TOP;
        int side = Scenes.SIDE;
        VersionWorks x = Scenes.ends();
        Due.same("B0", "" + root, list(x, "B0"));
        Due.same("B2", top + " " + root, list(x, "B2"));
        Due.same("of one to itself", "", list(x, "B2..B2"));
        Due.same("of one with itself", "", list(x, "B2...B2"));
        Due.same("to a descendant", "" + top, list(x, "B0..B2"));
        Due.same("to an ancestor", "", list(x, "B2..B0"));
        Due.same("with a descendant", "" + top, list(x, "B0...B2"));
        Due.same("with an ancestor", "" + top, list(x, "B2...B0"));
        Due.same("beside", "" + side, list(x, "B2..B3"));
        Due.same("beside, the other way", "" + top, list(x, "B3..B2"));
        Due.same("beside, both", side + " " + top, list(x, "B3...B2"));
        Edge.says("part 5", "If a revision names none, the text lists nothing (a method that asks for it throws)");
        for (String text : new String[] {"B1", "B1..B2", "B2..B1", "B1...B2", "B2...B1", "B0~..B2", "B2...B0^2"}) {
            Scenes.typed(x, text);
            Due.state(text, () -> x.list(0));
            Due.state(text, () -> x.listed(0, 0));
            Due.state(text, () -> x.listed(0, 99));
        }
    }
}
