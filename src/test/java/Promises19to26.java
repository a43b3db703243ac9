/** Promises 19 to 26: differences, blame, merges, picks, rebases. The answers were worked out by hand. */
final class Promises19to26 {
    private static final int NONE = VersionWorks.NONE;

    public static void main(String[] args) {
        promises19to20();
        promise20renames();
        promise21();
        promise22merge();
        promise22conflicts();
        longRows();
        promise22picks();
        promise23rebase();
        promise23stops();
        promise23root();
        promise23undone();
        renamesUsedUp();
        rebaseThrows();
        promises25to26();
        Due.end("Promises19to26");
    }

    private static int blob(VersionWorks x, long digits) {
        x.write(0, 15, digits);
        return x.add(0, 15);
    }

    private static int commit(VersionWorks x, int path, long digits, int message) {
        x.write(0, path, digits);
        x.addAll(0);
        return x.commit(0, 1, message);
    }

    private static void promises19to20() {
        VersionWorks x = new VersionWorks();
        int a = blob(x, 12345678);
        int b = blob(x, 12945678);
        int c = blob(x, 2345671);
        int empty = blob(x, 0);
        int twice = blob(x, 11);
        int mixed = blob(x, 21);
        Due.is("19 one changed", 2, () -> x.diffSize(0, a, b));
        Due.is("19 the same", 0, () -> x.diffSize(0, a, a));
        Due.is("19 from no lines", 8, () -> x.diffSize(0, NONE, a));
        Due.is("19 to no lines", 8, () -> x.diffSize(0, a, NONE));
        Due.is("19 none at all", 0, () -> x.diffSize(0, NONE, empty));
        Due.index("19 neither NONE nor a blob", () -> x.diffSize(0, -2, a));
        Due.index("19 no blob", () -> x.diffSize(0, a, 77));
        Due.is("19 pair", 1, () -> x.diffPair(0, a, b, 1));
        Due.is("19 removed", NONE, () -> x.diffPair(0, a, b, 2));
        Due.is("19 pair further on", 0, () -> x.diffPair(0, a, c, 1));
        Due.is("19 the first line removed", NONE, () -> x.diffPair(0, a, c, 0));
        // 1 1 to 2 1: removing the first 1 leaves a common row no shorter, so it is removed, and the second is paired.
        Due.is("19 rather removed than added", NONE, () -> x.diffPair(0, twice, mixed, 0));
        Due.is("19 the second one is paired", 1, () -> x.diffPair(0, twice, mixed, 1));
        // 2 1 to 1 1: the 2 goes, then the first new 1 is the partner.
        Due.is("19 the first that is the same", 0, () -> x.diffPair(0, mixed, twice, 1));
        Due.index("19 no such old line", () -> x.diffPair(0, a, b, 8));
        Due.index("19 no old lines", () -> x.diffPair(0, NONE, b, 0));
        Due.is("19 hunks", 1, () -> x.hunks(0, a, b, 0));
        Due.is("19 no hunk", 0, () -> x.hunks(0, a, a, 9));
        Due.is("19 two hunks", 2, () -> x.hunks(0, a, c, 0));
        Due.is("19 still two", 2, () -> x.hunks(0, a, c, 2));
        Due.is("19 one by a wide context", 1, () -> x.hunks(0, a, c, 3));
        Due.argument("19 context 10", () -> x.hunks(0, a, c, 10));
        Due.argument("19 context -1", () -> x.hunks(0, a, c, -1));
        Due.index("19 blob ahead of context", () -> x.hunks(0, 99, c, 10));
        Due.is("19 start, old", 1, () -> x.hunkStart(0, a, b, 1, 0, false));
        Due.is("19 start, new", 1, () -> x.hunkStart(0, a, b, 1, 0, true));
        Due.is("20 length, old", 3, () -> x.hunkLength(0, a, b, 1, 0, false));
        Due.is("20 length, new", 3, () -> x.hunkLength(0, a, b, 1, 0, true));
        // 12345678 to 2345671: remove 1, pairs 2 to 7, remove 8, add 1 in some order.
        Due.is("19 second start, old", 7, () -> x.hunkStart(0, a, c, 0, 1, false));
        Due.is("19 second start, new", 6, () -> x.hunkStart(0, a, c, 0, 1, true));
        Due.is("20 second length, old", 1, () -> x.hunkLength(0, a, c, 0, 1, false));
        Due.is("20 second length, new", 1, () -> x.hunkLength(0, a, c, 0, 1, true));
        Due.is("20 first length, new", 0, () -> x.hunkLength(0, a, c, 0, 0, true));
        Due.index("19 no third hunk", () -> x.hunkStart(0, a, c, 0, 2, true));
        Due.index("19 hunk -1", () -> x.hunkStart(0, a, c, 0, -1, true));
        Due.index("19 by a context out of range there are none", () -> x.hunkStart(0, a, c, 10, 0, true));
        Due.index("20 by a context out of range there are none", () -> x.hunkLength(0, a, c, -1, 0, true));
        Due.index("20 no such hunk", () -> x.hunkLength(0, a, a, 3, 0, true));
        Due.is("20 likeness", 87, () -> x.likeness(0, a, b));
        Due.is("20 of the same", 100, () -> x.likeness(0, a, a));
        Due.is("20 of none", 0, () -> x.likeness(0, a, empty));
        Due.is("20 neither has any", 100, () -> x.likeness(0, empty, empty));
        Due.index("20 NONE is no blob", () -> x.likeness(0, a, NONE));
    }

    private static void promise20renames() {
        VersionWorks x = new VersionWorks();
        x.write(0, 0, 1234);
        x.write(0, 1, 5678);
        x.write(0, 2, 99);
        int one = commit(x, 9, 9, 1);
        x.moveFile(0, 0, 6);
        x.moveFile(0, 1, 5);
        x.deleteLine(0, 5, 0);
        int two = commit(x, 9, 8, 2);
        Due.is("20 changed", 1 | 1 << 1 | 1 << 5 | 1 << 6 | 1 << 9, () -> x.changed(0, one, two));
        Due.is("20 changed from none", 1 | 2 | 4 | 1 << 9, () -> x.changed(0, NONE, one));
        Due.is("20 changed to the same", 0, () -> x.changed(0, two, two));
        Due.is("20 nothing to nothing", 0, () -> x.changed(0, NONE, NONE));
        Due.index("20 no commit", () -> x.changed(0, one, 0));
        Due.is("20 renamed whole", 0, () -> x.renamedFrom(0, one, two, 6, 100));
        Due.is("20 renamed and changed: 200 * 3 / 7 is 85", 1, () -> x.renamedFrom(0, one, two, 5, 85));
        Due.is("20 less alike than the limit", NONE, () -> x.renamedFrom(0, one, two, 5, 86));
        Due.is("20 a path that stays is no new one", NONE, () -> x.renamedFrom(0, one, two, 2, 1));
        Due.is("20 the other way", 6, () -> x.renamedFrom(0, two, one, 0, 1));
        Due.argument("20 limit 0", () -> x.renamedFrom(0, one, two, 5, 0));
        Due.argument("20 limit 101", () -> x.renamedFrom(0, one, two, 5, 101));
        Due.index("20 path ahead of limit", () -> x.renamedFrom(0, one, two, 16, 0));
        Due.index("20 NONE is no commit", () -> x.renamedFrom(0, NONE, two, 5, 50));
        // Two lost paths with the same lines: the lowest new path goes with the lowest lost one.
        VersionWorks y = new VersionWorks();
        y.write(0, 3, 777);
        int from = commit(y, 2, 777, 1);
        y.moveFile(0, 2, 12);
        y.moveFile(0, 3, 11);
        y.addAll(0);
        int to = y.commit(0, 1, 2);
        Due.is("20 lowest with lowest", 2, () -> y.renamedFrom(0, from, to, 11, 50));
        Due.is("20 the next with the next", 3, () -> y.renamedFrom(0, from, to, 12, 50));
    }

    private static void promise21() {
        VersionWorks x = new VersionWorks();
        int one = commit(x, 0, 123, 1);
        int two = commit(x, 0, 1923, 2);
        x.moveFile(0, 0, 7);
        x.insertLine(0, 7, 0, 8);
        x.addAll(0);
        int three = x.commit(0, 1, 3);
        Due.is("21 blame over a rename", two, () -> x.blame(0, three, 7, 2, 50));
        Due.is("21 its path", 0, () -> x.blamePath(0, three, 7, 2, 50));
        Due.is("21 its place", 1, () -> x.blamePlace(0, three, 7, 2, 50));
        Due.is("21 further back", one, () -> x.blame(0, three, 7, 4, 50));
        Due.is("21 its place there", 2, () -> x.blamePlace(0, three, 7, 4, 50));
        Due.is("21 the line itself", three, () -> x.blame(0, three, 7, 0, 50));
        Due.is("21 at its path", 7, () -> x.blamePath(0, three, 7, 0, 50));
        Due.is("21 by limit 0 no renames", three, () -> x.blame(0, three, 7, 4, 0));
        Due.is("21 less alike than the limit: 200 * 4 / 9 is 88", three, () -> x.blame(0, three, 7, 4, 89));
        Due.is("21 as alike as the limit", one, () -> x.blame(0, three, 7, 4, 88));
        Due.index("21 no such line", () -> x.blame(0, three, 7, 5, 50));
        Due.index("21 no blob", () -> x.blamePlace(0, three, 0, 0, 50));
        Due.index("21 no path", () -> x.blamePath(0, three, 16, 0, 50));
        Due.argument("21 limit 101", () -> x.blame(0, three, 7, 0, 101));
        Due.argument("21 limit -1", () -> x.blamePath(0, three, 7, 0, -1));
        Due.index("21 line ahead of limit", () -> x.blamePlace(0, three, 7, 5, -1));
        int four = commit(x, 3, 3, 4);
        Due.is("21 pathLog: not the one that leaves it", 1, () -> x.pathLog(0, four, 7));
        Due.is("22 pathLogAt", three, () -> x.pathLogAt(0, four, 7, 0));
        Due.is("21 also where it goes", 3, () -> x.pathLog(0, four, 0));
        Due.is("22 newest first", three, () -> x.pathLogAt(0, four, 0, 0));
        Due.is("22 oldest last", one, () -> x.pathLogAt(0, four, 0, 2));
        Due.is("21 never there", 0, () -> x.pathLog(0, four, 12));
        Due.index("22 no such place", () -> x.pathLogAt(0, four, 7, 1));
        Due.index("22 place -1", () -> x.pathLogAt(0, four, 7, -1));
        Due.index("21 no path", () -> x.pathLog(0, four, -1));
        Due.index("21 no commit", () -> x.pathLog(0, 0, 0));
        // A merge that has the same as its second parent: only that side is come to.
        x.branch(0, 1, one);
        x.switchTo(0, 1);
        int side = commit(x, 0, 1239, 5);
        x.merge(0, two, 1, 1, 1, 6);
        int merged = x.head(0);
        Due.is("21 the merge has both changes", 3, () -> x.pathLog(0, merged, 0) - 1);
        Due.is("22 the side is one parent", side, () -> x.parent(0, merged, 0));
        x.reset(0, one, 2);
        commit(x, 8, 8, 7);
        x.merge(0, four, 1, 0, 1, 7);
        Due.is("21 a path of one side", four, () -> x.pathLogAt(0, x.head(0), 3, 0));
        Due.is("21 the merge itself not", 1, () -> x.pathLog(0, x.head(0), 3));
    }

    private static void promise22merge() {
        VersionWorks x = new VersionWorks();
        Due.index("22 no commit", () -> x.merge(0, 0, 0, 0, 0, 0));
        int root = commit(x, 0, 1234567, 1);
        x.branch(0, 1, root);
        int ours = commit(x, 0, 9234567, 2);
        x.switchTo(0, 1);
        x.write(0, 4, 44);
        int theirs = commit(x, 0, 1234568, 3);
        x.switchTo(0, 0);
        Due.argument("22 mode 3", () -> x.merge(0, theirs, 3, 0, 0, 0));
        Due.argument("22 favour 3", () -> x.merge(0, theirs, 0, 3, 0, 0));
        Due.argument("22 author 10", () -> x.merge(0, theirs, 0, 0, 10, 0));
        Due.argument("22 message 100", () -> x.merge(0, theirs, 0, 0, 0, 100));
        Due.is("22 an ancestor: nothing", 0, () -> x.merge(0, root, 2, 0, 0, 0));
        Due.state("22 a fast-forward alone", () -> x.merge(0, theirs, 2, 0, 0, 0));
        x.write(0, 4, 5);
        Due.state("22 a file in the way", () -> x.merge(0, theirs, 0, 0, 0, 0));
        x.removeFile(0, 4);
        x.write(0, 9, 9);
        x.add(0, 9);
        Due.state("22 the index does not tell the head", () -> x.merge(0, theirs, 0, 0, 0, 0));
        x.unstage(0, 9);
        int before = x.objects(0);
        x.tick(0, 4);
        Due.is("22 merged, by stretches", 2, () -> x.merge(0, theirs, 0, 0, 8, 88));
        int made = x.head(0);
        Due.is("22 a blob, two trees... and the commit", before + 4, () -> x.objects(0));
        Due.is("22 first line of ours", 9, () -> x.fileLine(0, 0, 0));
        Due.is("22 last line of theirs", 8, () -> x.fileLine(0, 0, 6));
        Due.is("22 path of theirs", 2, () -> x.fileLines(0, 4));
        Due.is("22 the index has it", x.blobAt(0, theirs, 4), () -> x.indexed(0, 4));
        Due.is("22 the blob of theirs is stored anew", 4, () -> x.stamp(0, x.indexed(0, 4)));
        Due.is("22 first parent", ours, () -> x.parent(0, made, 0));
        Due.is("22 second parent", theirs, () -> x.parent(0, made, 1));
        Due.is("22 author", 8, () -> x.author(0, made));
        Due.is("22 message", 88, () -> x.message(0, made));
        Due.is("22 act", 4, () -> x.reflogAct(0, 0));
        Due.is("22 other files stay", 1, () -> x.fileLines(0, 9));
        x.switchTo(0, 1);
        x.write(0, 0, 7);
        Due.state("22 a fast-forward cannot be carried", () -> x.merge(0, made, 0, 0, 0, 0));
        x.restore(0, 0);
        Due.is("22 a fast-forward", 1, () -> x.merge(0, made, 2, 0, 0, 0));
        Due.is("22 the branch is there", made, () -> x.branchAt(0, 1));
        Due.is("22 its act", 4, () -> x.reflogAct(0, 0));
        x.reset(0, theirs, 2);
        Due.is("22 always a merge", 2, () -> x.merge(0, made, 1, 0, 3, 3));
        Due.is("22 of the same snapshot", x.rootTree(0, made), () -> x.rootTree(0, x.head(0)));
        x.startBranch(0, 5);
        Due.state("22 no head commit", () -> x.merge(0, made, 0, 0, 0, 0));
    }

    private static void promise22conflicts() {
        VersionWorks x = new VersionWorks();
        x.write(0, 1, 11);
        x.write(0, 2, 22);
        x.write(0, 3, 33);
        int root = commit(x, 0, 123, 1);
        x.branch(0, 1, root);
        x.removeFile(0, 1);
        x.write(0, 2, 29);
        x.write(0, 6, 1);
        int ours = commit(x, 0, 193, 2);
        x.switchTo(0, 1);
        x.write(0, 1, 19);
        x.removeFile(0, 2);
        x.removeFile(0, 3);
        x.write(0, 6, 2);
        int theirs = commit(x, 0, 183, 3);
        x.switchTo(0, 0);
        int bits = 1 | 2 | 4 | 1 << 6;
        Due.is("25 wouldClash", bits, () -> x.wouldClash(0, ours, theirs));
        Due.is("25 the other way as well", bits, () -> x.wouldClash(0, theirs, ours));
        Due.is("22 stops", 3, () -> x.merge(0, theirs, 0, 0, 6, 66));
        Due.is("24 operation", 1, () -> x.operation(0));
        Due.is("24 operationCommit", theirs, () -> x.operationCommit(0));
        Due.is("22 no commit", ours, () -> x.head(0));
        Due.is("22 left: 1, the mark, ours, the mark, theirs, the mark, 3", 7, () -> x.fileLines(0, 0));
        int[] due = {1, 100, 9, 101, 8, 102, 3};
        for (int k = 0; k < 7; k++) {
            int place = k;
            Due.is("22 left", due[k], () -> x.fileLine(0, 0, place));
        }
        Due.is("22 ours has nothing: left is theirs", 9, () -> x.fileLine(0, 1, 1));
        Due.is("22 its stage ours", NONE, () -> x.stage(0, 1, 1));
        Due.is("22 theirs has nothing: left is ours", 9, () -> x.fileLine(0, 2, 1));
        Due.is("22 its stage theirs", NONE, () -> x.stage(0, 2, 2));
        Due.is("22 its stage base", x.blobAt(0, root, 2), () -> x.stage(0, 2, 0));
        Due.is("22 both added: no base", NONE, () -> x.stage(0, 6, 0));
        Due.is("22 both added: left", 5, () -> x.fileLines(0, 6));
        Due.is("22 without a conflict it is merged", NONE, () -> x.fileLines(0, 3));
        Due.is("22 in the index, too", NONE, () -> x.indexed(0, 3));
        Due.state("22 busy", () -> x.merge(0, theirs, 0, 0, 0, 0));
        Due.state("22 busy", () -> x.cherryPick(0, theirs, 0, 0));
        Due.state("22 busy", () -> x.revert(0, theirs, 0, 0, 0, 0));
        Due.state("23 busy", () -> x.rebase(0, theirs, theirs, 0));
        Due.state("11 busy", () -> x.startBranch(0, 4));
        Due.state("12 busy", () -> x.switchTo(0, 1));
        Due.state("12 busy", () -> x.detach(0, root));
        Due.state("12 busy", () -> x.reset(0, root, 2));
        Due.state("35 busy", () -> x.stashPush(0, 0, 0));
        Due.state("23 proceed with a conflict", () -> x.proceed(0));
        Due.state("23 skip without a rebase", () -> x.skip(0));

        Due.is("24 takeStage", 2, () -> x.takeStage(0, 1, 0));
        Due.is("24 its file", 1, () -> x.fileLine(0, 1, 1));
        Due.is("24 takeStage of none", NONE, () -> x.takeStage(0, 1, 1));
        Due.is("24 no file then", NONE, () -> x.fileLines(0, 1));
        Due.is("24 the conflict stays", 4, () -> x.unstaged(0, 1));
        Due.index("24 stage 3", () -> x.takeStage(0, 1, 3));
        Due.state("24 no conflict there", () -> x.takeStage(0, 3, 0));
        Due.is("24 mergeFile with nothing in ours", 0, () -> x.mergeFile(0, 1, 0));
        Due.is("24 the lines of the other one", 9, () -> x.fileLine(0, 1, 1));
        Due.is("25 another merge is asked between", 3, () -> x.mergedLines(0, root, root, 0));
        Due.is("24 mergeFile, favour ours: one stretch clashes", 1, () -> x.mergeFile(0, 0, 1));
        Due.is("24 ours", 9, () -> x.fileLine(0, 0, 1));
        Due.is("24 mergeFile, favour theirs", 1, () -> x.mergeFile(0, 0, 2));
        Due.is("24 theirs", 8, () -> x.fileLine(0, 0, 1));
        Due.is("24 mergeFile anew", 1, () -> x.mergeFile(0, 0, 0));
        Due.is("24 marks", 102, () -> x.fileLine(0, 0, 5));
        Due.argument("24 favour 3", () -> x.mergeFile(0, 3, 3));
        Due.state("24 no conflict there", () -> x.mergeFile(0, 3, 0));
        Due.index("24 no path", () -> x.mergeFile(0, 16, 3));

        x.addAll(0);
        x.tick(0, 3);
        Due.is("23 proceed", 2, () -> x.proceed(0));
        Due.is("23 second parent", theirs, () -> x.parent(0, x.head(0), 1));
        Due.is("23 author", 6, () -> x.author(0, x.head(0)));
        Due.is("23 message", 66, () -> x.message(0, x.head(0)));
        Due.is("23 the date is the clock", 3, () -> x.date(0, x.head(0)));
        Due.is("23 over", 0, () -> x.operation(0));
        Due.is("24 no operationCommit", NONE, () -> x.operationCommit(0));
        Due.state("23 proceed with nothing", () -> x.proceed(0));
        Due.state("23 abort with nothing", () -> x.abort(0));
        Due.index("23 abort nowhere", () -> x.abort(2));

        x.reset(0, ours, 2);
        Due.is("22 favour ours: what has nothing still conflicts", 3, () -> x.merge(0, theirs, 0, 1, 1, 1));
        Due.is("22 by favour ours", 9, () -> x.fileLine(0, 0, 1));
        Due.is("22 no conflict there", 0, () -> x.staged(0, 0));
        x.write(0, 12, 12);
        x.write(0, 0, 777);
        Due.is("23 abort", ours, () -> x.abort(0));
        Due.is("23 the file at a conflict goes", NONE, () -> x.fileLines(0, 1));
        Due.is("23 where the index has it the file stays", 7, () -> x.fileLine(0, 0, 1));
        Due.is("23 a merged path comes back", 2, () -> x.fileLines(0, 3));
        Due.is("23 other files stay", 2, () -> x.fileLines(0, 12));
        Due.yes("isSound", x.isSound(0, 0));
    }

    /** Rows of more than 60 lines: ours and theirs have 40 other lines each around one that is fixed. */
    private static void longRows() {
        VersionWorks x = new VersionWorks();
        int root = commit(x, 0, 5, 1);
        x.branch(0, 1, root);
        for (int i = 0; i < 40; i++) {
            x.insertLine(0, 0, 0, 11);
        }
        x.addAll(0);
        int ours = x.commit(0, 1, 2);
        x.switchTo(0, 1);
        for (int i = 0; i < 40; i++) {
            x.insertLine(0, 0, 1, 12);
        }
        x.addAll(0);
        int theirs = x.commit(0, 1, 3);
        x.switchTo(0, 0);
        Due.is("25 more than 60 lines is a conflict", 1, () -> x.wouldClash(0, ours, theirs));
        Due.is("25 left are the lines of ours", 41, () -> x.mergedLines(0, ours, theirs, 0));
        Due.is("22 also by a favour", 3, () -> x.merge(0, theirs, 0, 2, 1, 1));
        Due.is("22 left are the lines of ours", 41, () -> x.fileLines(0, 0));
        x.write(0, 0, 1);
        Due.is("24 no stretch clashes", 0, () -> x.mergeFile(0, 0, 0));
        Due.is("24 more than 60: the lines of ours", 41, () -> x.fileLines(0, 0));
        x.abort(0);
        for (int i = 0; i < 20; i++) {
            x.deleteLine(0, 0, 0);
        }
        x.addAll(0);
        int shorter = x.commit(0, 1, 4);
        x.deleteLine(0, 0, 0);
        x.addAll(0);
        int fits = x.commit(0, 1, 5);
        Due.is("25 61 lines", 1, () -> x.wouldClash(0, shorter, theirs));
        Due.is("25 60 lines", 0, () -> x.wouldClash(0, fits, theirs));
        Due.is("25 60 lines", 60, () -> x.mergedLines(0, fits, theirs, 0));
    }

    private static void promise22picks() {
        VersionWorks x = new VersionWorks();
        int root = commit(x, 0, 1234567, 1);
        x.branch(0, 1, root);
        int ours = commit(x, 0, 9234567, 2);
        x.switchTo(0, 1);
        x.write(0, 0, 1234568);
        x.add(0, 0);
        int theirs = x.commit(0, 7, 33);
        Due.argument("22 mainline 3", () -> x.cherryPick(0, theirs, 3, 0));
        Due.argument("22 favour -1", () -> x.cherryPick(0, theirs, 0, -1));
        Due.index("22 no commit", () -> x.cherryPick(0, 0, 3, 0));
        Due.state("22 mainline of one parent", () -> x.cherryPick(0, theirs, 1, 0));
        x.switchTo(0, 0);
        x.tick(0, 2);
        Due.is("22 pick", 2, () -> x.cherryPick(0, theirs, 0, 0));
        int picked = x.head(0);
        Due.is("22 author of the picked", 7, () -> x.author(0, picked));
        Due.is("22 message of the picked", 33, () -> x.message(0, picked));
        Due.is("22 date is the clock", 2, () -> x.date(0, picked));
        Due.is("22 one parent", ours, () -> x.parent(0, picked, 0));
        Due.is("22 no second", NONE, () -> x.parent(0, picked, 1));
        Due.is("22 act", 5, () -> x.reflogAct(0, 0));
        Due.is("22 its change alone", 9, () -> x.fileLine(0, 0, 0));
        int entries = x.reflog(0);
        Due.is("22 picked again: untouched", 0, () -> x.cherryPick(0, theirs, 0, 0));
        Due.is("22 HEAD is not moved", entries, () -> x.reflog(0));
        Due.is("22 over", 0, () -> x.operation(0));
        Due.argument("22 revert author", () -> x.revert(0, picked, 0, 0, 10, 0));
        Due.argument("22 revert message", () -> x.revert(0, picked, 0, 0, 0, 100));
        Due.argument("22 revert mainline", () -> x.revert(0, picked, -1, 0, 0, 0));
        Due.argument("22 revert favour", () -> x.revert(0, picked, 0, 3, 0, 0));
        Due.is("22 revert", 2, () -> x.revert(0, ours, 0, 0, 4, 44));
        Due.is("22 reverted", 1, () -> x.fileLine(0, 0, 0));
        Due.is("22 the later change stays", 8, () -> x.fileLine(0, 0, 6));
        Due.is("22 author told", 4, () -> x.author(0, x.head(0)));
        Due.is("22 act", 6, () -> x.reflogAct(0, 0));
        Due.is("22 revert again: untouched", 0, () -> x.revert(0, ours, 0, 0, 4, 44));
        x.reset(0, ours, 2);
        x.merge(0, theirs, 1, 0, 0, 0);
        int merged = x.head(0);
        x.reset(0, ours, 2);
        Due.state("22 two parents, mainline 0", () -> x.cherryPick(0, merged, 0, 0));
        Due.is("22 by the second parent: untouched", 0, () -> x.cherryPick(0, merged, 2, 0));
        Due.is("22 by the first parent", 2, () -> x.cherryPick(0, merged, 1, 0));
        Due.is("22 the change of theirs", 8, () -> x.fileLine(0, 0, 6));
        x.reset(0, merged, 2);
        Due.state("22 revert of a merge", () -> x.revert(0, merged, 0, 0, 0, 0));
        Due.is("22 revert by the second", 2, () -> x.revert(0, merged, 2, 0, 0, 0));
        Due.is("22 ours is gone", 1, () -> x.fileLine(0, 0, 0));
        x.reset(0, merged, 2);
        Due.is("22 revert of the root: modified since", 3, () -> x.revert(0, root, 0, 0, 2, 22));
        Due.is("24 operation", 3, () -> x.operation(0));
        Due.is("24 theirs is nothing", NONE, () -> x.stage(0, 0, 2));
        x.takeStage(0, 0, 2);
        x.add(0, 0);
        Due.is("23 proceed", 2, () -> x.proceed(0));
        Due.is("23 act", 6, () -> x.reflogAct(0, 0));
        Due.is("23 author", 2, () -> x.author(0, x.head(0)));
        Due.is("23 one parent", merged, () -> x.parent(0, x.head(0), 0));
        Due.is("22 pick of the root onto nothing", 2, () -> x.cherryPick(0, root, 0, 0));
        x.reset(0, ours, 2);
        x.write(0, 0, 9939567);
        x.add(0, 0);
        x.commit(0, 0, 0);
        int clash = commit(x, 0, 9238567, 0);
        x.reset(0, ours, 2);
        Due.is("22 pick stops", 3, () -> x.cherryPick(0, clash, 0, 0));
        Due.is("24 operation", 2, () -> x.operation(0));
        x.takeStage(0, 0, 1);
        x.add(0, 0);
        int log = x.reflog(0);
        Due.is("23 proceed with nothing new", 2, () -> x.proceed(0));
        Due.is("23 no commit is made", ours, () -> x.head(0));
        Due.is("23 HEAD is not moved", log, () -> x.reflog(0));
        Due.is("22 by favour ours", 0, () -> x.cherryPick(0, clash, 0, 1));
        Due.is("22 by favour theirs", 2, () -> x.cherryPick(0, clash, 0, 2));
    }

    private static void promise23rebase() {
        VersionWorks x = new VersionWorks();
        int root = commit(x, 0, 1, 1);
        x.branch(0, 1, root);
        int a = commit(x, 4, 4, 2);
        int b = commit(x, 8, 8, 3);
        x.switchTo(0, 1);
        int up = commit(x, 12, 2, 4);
        x.cherryPick(0, a, 0, 0);
        int again = x.head(0);
        x.switchTo(0, 0);
        Due.argument("23 favour 3", () -> x.rebase(0, up, up, 3));
        Due.index("23 no upstream", () -> x.rebase(0, 0, up, 3));
        Due.index("23 no onto", () -> x.rebase(0, up, 0, 3));
        x.write(0, 0, 9);
        Due.state("23 a tracked file not as the index", () -> x.rebase(0, up, up, 0));
        x.add(0, 0);
        Due.state("23 the index not as the head", () -> x.rebase(0, up, up, 0));
        x.unstage(0, 0);
        x.restore(0, 0);
        x.write(0, 12, 1);
        Due.state("23 cannot be carried", () -> x.rebase(0, up, up, 0));
        Due.is("23 nothing changed", b, () -> x.head(0));
        Due.is("23 nothing changed", 0, () -> x.headBranch(0));
        x.removeFile(0, 12);
        x.write(0, 15, 1);
        x.tick(0, 5);
        int entries = x.reflog(0);
        Due.is("23 rebase", 2, () -> x.rebase(0, again, again, 0));
        int made = x.head(0);
        Due.is("23 a is there already, b alone is picked", again, () -> x.parent(0, made, 0));
        Due.is("23 its message", 3, () -> x.message(0, made));
        Due.is("23 its date", 5, () -> x.date(0, made));
        Due.is("23 on its branch again", 0, () -> x.headBranch(0));
        Due.is("23 the branch is at it", made, () -> x.branchAt(0, 0));
        Due.is("23 entries: onto, the pick, the end", entries + 3, () -> x.reflog(0));
        Due.is("23 act", 7, () -> x.reflogAct(0, 0));
        Due.is("23 the end", made, () -> x.reflogCommit(0, 0));
        Due.is("23 the pick", made, () -> x.reflogCommit(0, 1));
        Due.is("23 onto", again, () -> x.reflogCommit(0, 2));
        Due.is("23 a file of no snapshot stays", 1, () -> x.fileLines(0, 15));
        Due.is("23 over", 0, () -> x.operation(0));
        // Onto the parent itself each step is carried: the same commits.
        x.reset(0, b, 2);
        Due.is("23 onto where it is", 2, () -> x.rebase(0, root, root, 0));
        Due.is("23 the same commit", b, () -> x.head(0));
        Due.is("23 its date stays", 0, () -> x.date(0, x.head(0)));
        x.detach(0, b);
        entries = x.reflog(0);
        int from = entries;
        Due.is("23 detached, onto another", 2, () -> x.rebase(0, root, up, 0));
        Due.is("23 stays detached", NONE, () -> x.headBranch(0));
        Due.is("23 no entry for the end", from + 3, () -> x.reflog(0));
        Due.is("23 two steps", up, () -> x.parent(0, x.parent(0, x.head(0), 0), 0));
        Due.is("23 branches stay", b, () -> x.branchAt(0, 0));
        Due.is("23 none to do", 2, () -> x.rebase(0, x.head(0), root, 0));
        Due.is("23 HEAD is onto", root, () -> x.head(0));
        x.startBranch(0, 5);
        Due.state("23 no head commit", () -> x.rebase(0, root, root, 0));
    }

    private static void promise23stops() {
        VersionWorks x = new VersionWorks();
        int root = commit(x, 0, 123, 1);
        x.branch(0, 1, root);
        int a = commit(x, 0, 193, 2);
        int b = commit(x, 0, 1735, 3);
        int c = commit(x, 4, 4, 4);
        x.switchTo(0, 1);
        int up = commit(x, 0, 183, 5);
        x.switchTo(0, 0);
        Due.is("23 stops", 3, () -> x.rebase(0, up, up, 0));
        Due.is("24 operation", 4, () -> x.operation(0));
        Due.is("24 at a", a, () -> x.operationCommit(0));
        Due.is("25 todo", 2, () -> x.todo(0));
        Due.is("25 todoAt", b, () -> x.todoAt(0, 0));
        Due.is("25 todoAt", c, () -> x.todoAt(0, 1));
        Due.index("25 todoAt", () -> x.todoAt(0, 2));
        Due.index("25 todoAt", () -> x.todoAt(0, -1));
        Due.is("23 HEAD is detached", NONE, () -> x.headBranch(0));
        Due.is("23 onto", up, () -> x.head(0));
        Due.is("23 the branch is where it was", c, () -> x.branchAt(0, 0));
        Due.state("11 HEAD holds it", () -> x.moveBranch(0, 0, root));
        Due.state("11 HEAD holds it", () -> x.deleteBranch(0, 0, true));
        Due.state("11 it began on it", () -> x.renameBranch(0, 0, 3));
        Due.is("11 another one goes", up, () -> x.renameBranch(0, 1, 2));
        Due.state("23 a conflict", () -> x.proceed(0));
        Due.is("9 ours is onto", x.blobAt(0, up, 0), () -> x.stage(0, 0, 1));
        Due.is("23 abort", c, () -> x.abort(0));
        Due.is("23 on its branch", 0, () -> x.headBranch(0));
        Due.is("23 act", 7, () -> x.reflogAct(0, 0));
        Due.is("23 the file", 4, () -> x.fileLines(0, 0));
        Due.is("25 no todo", 0, () -> x.todo(0));

        x.rebase(0, up, up, 0);
        Due.is("23 skip: b still asks for a's line", 3, () -> x.skip(0));
        Due.is("24 at b", b, () -> x.operationCommit(0));
        Due.is("25 todo", 1, () -> x.todo(0));
        x.mergeFile(0, 0, 2);
        x.add(0, 0);
        x.tick(0, 7);
        Due.is("23 proceed to the end", 2, () -> x.proceed(0));
        int head = x.head(0);
        Due.is("23 c anew", 4, () -> x.message(0, head));
        Due.is("23 b anew", 3, () -> x.message(0, x.parent(0, head, 0)));
        Due.is("23 then up", up, () -> x.parent(0, x.parent(0, head, 0), 0));
        Due.is("23 act of all", 7, () -> x.reflogAct(0, 2));
        Due.is("23 on its branch", 0, () -> x.headBranch(0));

        x.reset(0, c, 2);
        Due.is("23 favour theirs: the steps win", 2, () -> x.rebase(0, up, up, 2));
        Due.is("23 the line of b", 7, () -> x.fileLine(0, 0, 1));
        x.reset(0, c, 2);
        Due.is("23 stops", 3, () -> x.rebase(0, up, up, 0));
        x.takeStage(0, 0, 1);
        x.add(0, 0);
        Due.is("23 proceed without a commit of a: b stops", 3, () -> x.proceed(0));
        Due.is("23 HEAD is still onto", up, () -> x.head(0));
        x.takeStage(0, 0, 1);
        x.add(0, 0);
        x.write(0, 4, 9);
        Due.state("23 a file in the way of c", () -> x.proceed(0));
        Due.is("23 all is as before", b, () -> x.operationCommit(0));
        Due.is("25 as before", 1, () -> x.todo(0));
        x.removeFile(0, 4);
        Due.is("23 proceed", 2, () -> x.proceed(0));
        Due.is("23 c alone", up, () -> x.parent(0, x.head(0), 0));
        Due.yes("isSound", x.isSound(0, 0));
    }

    /** A merge among the commits is left out; a commit without a parent is picked. */
    private static void promise23root() {
        VersionWorks x = new VersionWorks();
        int one = commit(x, 0, 1, 1);
        x.startBranch(0, 1);
        x.removeFile(0, 0);
        int two = commit(x, 4, 4, 2);
        x.merge(0, one, 0, 0, 1, 3);
        int merged = x.head(0);
        Due.is("17 no common ancestor", 0, () -> x.bases(0, one, two));
        int last = commit(x, 8, 8, 4);
        x.startBranch(0, 2);
        x.removeFile(0, 0);
        x.removeFile(0, 4);
        x.removeFile(0, 8);
        int onto = commit(x, 12, 12, 5);
        x.switchTo(0, 1);
        Due.is("23 rebase over roots", 2, () -> x.rebase(0, onto, onto, 0));
        Due.is("23 the last", 4, () -> x.message(0, x.head(0)));
        Due.is("23 no merge", NONE, () -> x.parent(0, x.head(0), 1));
        Due.is("23 three steps", 4, () -> x.generation(0, x.head(0)));
        Due.is("23 of one snapshot", 1 << 12, () -> x.changed(0, last, x.head(0)));
        Due.yes("23 the merge stays", x.kind(0, merged) == 2);
    }

    /** What throws changes nothing at all, however far its work had come: two steps of a rebase are done and undone. */
    private static void promise23undone() {
        VersionWorks x = new VersionWorks();
        int root = commit(x, 0, 123, 1);
        x.branch(0, 1, root);
        x.write(0, 0, 193);
        x.add(0, 0);
        x.commit(0, 7, 77);
        x.write(0, 4, 4);
        x.add(0, 4);
        int b = x.commit(0, 8, 88);
        x.write(0, 8, 8);
        x.add(0, 8);
        int c = x.commit(0, 9, 99);
        x.switchTo(0, 1);
        int up = commit(x, 0, 183, 5);
        x.switchTo(0, 0);
        Due.is("23 stops", 3, () -> x.rebase(0, up, up, 0));
        x.write(0, 0, 1983);
        x.add(0, 0);
        x.write(0, 8, 1);
        int objects = x.objects(0);
        int entries = x.reflog(0);
        Due.state("23 in the way of the last step", () -> x.proceed(0));
        Due.is("23 no object came", objects, () -> x.objects(0));
        Due.is("23 no entry came", entries, () -> x.reflog(0));
        Due.is("23 HEAD as before", up, () -> x.head(0));
        Due.is("25 to do as before", b, () -> x.todoAt(0, 0));
        Due.is("25 to do as before", c, () -> x.todoAt(0, 1));
        Due.is("24 stopped as before", 77, () -> x.message(0, x.operationCommit(0)));
        Due.is("9 the index as before", 2, () -> x.staged(0, 0));
        Due.is("23 the files as before", NONE, () -> x.fileLines(0, 4));
        // What got the numbers of commits that were undone are blobs now, and no commits to be told.
        x.write(0, 8, 5);
        x.add(0, 8);
        x.unstage(0, 8);
        for (int k = 0; k < 9; k++) {
            x.write(0, 8, 51 + k);
            x.add(0, 8);
            x.unstage(0, 8);
        }
        x.removeFile(0, 8);
        x.write(1, 0, 5);
        x.add(1, 0);
        x.commit(1, 1, 1);
        x.fetch(0, 240);
        Due.is("28 told are the five commits", 5, () -> x.told());
        Due.is("23 proceed", 2, () -> x.proceed(0));
        int first = x.parent(0, x.parent(0, x.head(0), 0), 0);
        Due.is("23 the author of the first step", 7, () -> x.author(0, first));
        Due.is("23 its message", 77, () -> x.message(0, first));
        Due.is("23 its parent", up, () -> x.parent(0, first, 0));
        Due.is("23 the author of the last", 9, () -> x.author(0, x.head(0)));
        Due.yes("isSound", x.isSound(0, 0));
    }

    /** A path is in one rename alone, as the new one and as the lost one. */
    private static void renamesUsedUp() {
        VersionWorks x = new VersionWorks();
        x.write(0, 0, 12345);
        int from = commit(x, 1, 123456, 1);
        x.removeFile(0, 0);
        x.moveFile(0, 1, 6);
        x.addAll(0);
        int to = x.commit(0, 1, 2);
        Due.is("20 the more alike", 1, () -> x.renamedFrom(0, from, to, 6, 1));
        Due.is("20 the other way the new path 1", 6, () -> x.renamedFrom(0, to, from, 1, 1));
        Due.is("20 the lost path is used up", NONE, () -> x.renamedFrom(0, to, from, 0, 1));
        // As alike as each other: of two lost paths the lower one, of two new paths the lower one.
        VersionWorks y = new VersionWorks();
        y.write(0, 3, 777);
        int two = commit(y, 2, 777, 1);
        y.removeFile(0, 3);
        y.moveFile(0, 2, 12);
        y.addAll(0);
        int one = y.commit(0, 1, 2);
        Due.is("20 the lower lost path", 2, () -> y.renamedFrom(0, two, one, 12, 50));
        Due.is("20 the lower new path", 12, () -> y.renamedFrom(0, one, two, 2, 50));
        Due.is("20 none for the higher", NONE, () -> y.renamedFrom(0, one, two, 3, 50));
    }

    /** A rebase that throws in its second step, as it begins. */
    private static void rebaseThrows() {
        VersionWorks x = new VersionWorks();
        int blob = blob(x, 99);
        x.unstage(0, 15);
        x.removeFile(0, 15);
        int root = commit(x, 0, 1, 1);
        x.branch(0, 1, root);
        commit(x, 4, 4, 2);
        int mine = commit(x, 8, 8, 3);
        x.reset(0, mine, 2);
        x.tick(0, 9);
        x.switchTo(0, 1);
        Due.is("29 what HEAD is not at is not reached", 0, () -> x.isReached(0, blob) ? 1 : 0);
        int up = commit(x, 12, 2, 4);
        x.deleteBranch(0, 0, true);
        x.startBranch(0, 5);
        x.branch(0, 2, mine);
        x.reset(0, mine, 2);
        // A step of the rebase takes path 8 away and brings it back: the file that is not tracked is in its way.
        x.removeFile(0, 8);
        x.addAll(0);
        int without = x.commit(0, 1, 5);
        x.write(0, 8, 7);
        int entries = x.reflog(0);
        int objects = x.objects(0);
        Due.state("23 in the way of the second step", () -> x.rebase(0, up, up, 0));
        Due.is("23 HEAD", without, () -> x.head(0));
        Due.is("23 its branch", 5, () -> x.headBranch(0));
        Due.is("23 the branch", without, () -> x.branchAt(0, 5));
        Due.is("23 no entry", entries, () -> x.reflog(0));
        Due.is("23 no object", objects, () -> x.objects(0));
        Due.is("23 the file", 7, () -> x.fileLine(0, 8, 0));
        Due.is("23 no file of the first step is gone", 1, () -> x.fileLines(0, 4));
        Due.is("23 no file of onto", NONE, () -> x.fileLines(0, 12));
        Due.is("23 no operation", 0, () -> x.operation(0));
        Due.is("23 the index", NONE, () -> x.indexed(0, 8));
        x.removeFile(0, 8);
        Due.is("23 rebase", 2, () -> x.rebase(0, up, up, 0));
    }

    private static void promises25to26() {
        VersionWorks x = new VersionWorks();
        x.write(0, 4, 44);
        int root = commit(x, 0, 123, 1);
        x.branch(0, 1, root);
        x.removeFile(0, 4);
        int ours = commit(x, 0, 193, 2);
        x.switchTo(0, 1);
        int theirs = commit(x, 0, 183, 3);
        Due.is("25 wouldClash", 1, () -> x.wouldClash(0, ours, theirs));
        Due.is("25 of a line nothing clashes", 0, () -> x.wouldClash(0, root, theirs));
        Due.index("25 no commit", () -> x.wouldClash(0, ours, 0));
        Due.is("25 what is left", 7, () -> x.mergedLines(0, ours, theirs, 0));
        Due.is("25 the result is nothing", NONE, () -> x.mergedLines(0, ours, theirs, 4));
        Due.is("25 never there", NONE, () -> x.mergedLines(0, ours, theirs, 15));
        Due.index("25 no path", () -> x.mergedLines(0, ours, theirs, 16));
        Due.is("26 ours first", 9, () -> x.mergedLine(0, ours, theirs, 0, 2));
        Due.is("26 the other way theirs first", 8, () -> x.mergedLine(0, theirs, ours, 0, 2));
        Due.index("26 no line", () -> x.mergedLine(0, ours, theirs, 0, 7));
        Due.index("26 nothing has no line", () -> x.mergedLine(0, ours, theirs, 4, 0));
        Due.is("26 baseLines", 3, () -> x.baseLines(0, ours, theirs, 0));
        Due.is("26 baseLines", 2, () -> x.baseLines(0, ours, theirs, 4));
        Due.is("26 no base there", NONE, () -> x.baseLines(0, ours, theirs, 5));
        Due.is("26 baseLine", 2, () -> x.baseLine(0, ours, theirs, 0, 1));
        Due.index("26 no line", () -> x.baseLine(0, ours, theirs, 0, 3));
        Due.index("26 nothing has no line", () -> x.baseLine(0, ours, theirs, 5, 0));
        Due.index("26 no path", () -> x.baseLines(0, ours, theirs, -1));
        // Criss-cross with a conflict between the bases: left are the marks, with the first base as ours.
        x.merge(0, ours, 1, 1, 1, 4);
        int one = x.head(0);
        x.switchTo(0, 0);
        x.merge(0, theirs, 1, 1, 1, 5);
        int two = x.head(0);
        Due.is("17 two bases", 2, () -> x.bases(0, one, two));
        int[] due = {1, 100, 9, 101, 8, 102, 3};
        Due.is("26 the base with marks", 7, () -> x.baseLines(0, one, two, 0));
        for (int k = 0; k < 7; k++) {
            int place = k;
            Due.is("26 the base with marks", due[k], () -> x.baseLine(0, one, two, 0, place));
        }
        int before = x.objects(0);
        Due.is("22 merged with such a base: both differ", 3, () -> x.merge(0, one, 0, 0, 1, 6));
        Due.is("22 the base is stored as a blob", before, () -> x.stage(0, 0, 0));
        Due.is("22 with its marks", 102, () -> x.blobLine(0, before, 5));
        Due.yes("isSound", x.isSound(0, 0));
    }
}
