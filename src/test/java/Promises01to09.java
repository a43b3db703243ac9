/** Promises 1 to 9: a new object, working files, objects, the index, commits. The answers were worked out by hand. */
final class Promises01to09 {
    private static final int NONE = VersionWorks.NONE;
    private static final int LEAST = Integer.MIN_VALUE;
    private static final int MOST = Integer.MAX_VALUE;

    public static void main(String[] args) {
        promise1();
        promise2();
        promise3();
        promise4();
        promises5to7();
        promise7add();
        promise8();
        promise9();
        Due.end("Promises01to09");
    }

    private static void promise1() {
        VersionWorks x = new VersionWorks();
        Due.same("NONE", -1, VersionWorks.NONE);
        for (int repo = 0; repo < 2; repo++) {
            int r = repo;
            Due.is("1 objects", 0, () -> x.objects(r));
            Due.is("1 clock", 0, () -> x.clock(r));
            Due.is("1 head", NONE, () -> x.head(r));
            Due.is("1 headBranch", 0, () -> x.headBranch(r));
            Due.is("1 reflog", 0, () -> x.reflog(r));
            Due.is("1 stashes", 0, () -> x.stashes(r));
            Due.is("1 operation", 0, () -> x.operation(r));
            Due.is("1 operationCommit", NONE, () -> x.operationCommit(r));
            Due.is("1 todo", 0, () -> x.todo(r));
            Due.is("1 left", NONE, () -> x.left(r));
            Due.is("1 packSize", 0, () -> x.packSize(r));
            Due.is("1 reached", 0, () -> x.reached(r));
            for (int i = 0; i < 6; i++) {
                int n = i;
                Due.is("1 branchAt", NONE, () -> x.branchAt(r, n));
                Due.is("1 tagAt", NONE, () -> x.tagAt(r, n));
                Due.is("1 trackAt", NONE, () -> x.trackAt(r, n));
            }
            for (int p = 0; p < 16; p++) {
                int path = p;
                Due.is("1 fileLines", NONE, () -> x.fileLines(r, path));
                Due.is("1 indexed", NONE, () -> x.indexed(r, path));
            }
            Due.yes("1 isSound", x.isSound(r, 0));
        }
        Due.is("1 fault", 0, () -> x.fault());
        Due.is("1 rounds", 0, () -> x.rounds());
    }

    private static void promise2() {
        VersionWorks x = new VersionWorks();
        Due.is("2 write", 19, () -> x.write(1, 15, 9111111111111111118L));
        Due.is("2 first digit first", 9, () -> x.fileLine(1, 15, 0));
        Due.is("2 last digit", 8, () -> x.fileLine(1, 15, 18));
        Due.is("2 write in place", 0, () -> x.write(1, 15, 0));
        Due.is("2 without lines", 0, () -> x.fileLines(1, 15));
        Due.argument("2 digit 0", () -> x.write(1, 15, 10));
        Due.argument("2 digit 0 inside", () -> x.write(1, 15, 902));
        Due.argument("2 below 0", () -> x.write(1, 15, -1));
        Due.argument("2 least", () -> x.write(1, 15, Long.MIN_VALUE));
        Due.index("2 path ahead of digits", () -> x.write(1, -1, -1));
        Due.index("2 no repository", () -> x.write(2, 0, 1));
        Due.index("2 no repository", () -> x.write(LEAST, 0, 1));
        Due.is("2 nothing changed", 0, () -> x.fileLines(1, 15));

        Due.is("2 insert", 1, () -> x.insertLine(1, 15, 0, 99));
        Due.is("2 insert ahead", 2, () -> x.insertLine(1, 15, 0, 1));
        Due.is("2 insert between", 3, () -> x.insertLine(1, 15, 1, 7));
        Due.is("2 moved on", 99, () -> x.fileLine(1, 15, 2));
        Due.is("2 inserted", 7, () -> x.fileLine(1, 15, 1));
        Due.index("2 place behind", () -> x.insertLine(1, 15, 4, 7));
        Due.index("2 place below, ahead of line", () -> x.insertLine(1, 15, -1, 100));
        Due.argument("2 line 0", () -> x.insertLine(1, 15, 0, 0));
        Due.argument("2 line 100, ahead of no file", () -> x.insertLine(1, 14, 0, 100));
        Due.state("2 no file", () -> x.insertLine(1, 14, 0, 1));
        Due.index("2 no file, place 1", () -> x.insertLine(1, 14, 1, 1));
        for (int n = 3; n < 60; n++) {
            int due = n + 1;
            Due.is("2 insert up to 60", due, () -> x.insertLine(1, 15, due - 1, 5));
        }
        Due.state("2 has 60", () -> x.insertLine(1, 15, 60, 5));
        Due.index("2 place 61", () -> x.insertLine(1, 15, 61, 5));
        Due.index("2 place most", () -> x.insertLine(1, 15, MOST, 5));

        Due.is("2 delete", 7, () -> x.deleteLine(1, 15, 1));
        Due.is("2 moved up", 99, () -> x.fileLine(1, 15, 1));
        Due.is("2 one fewer", 59, () -> x.fileLines(1, 15));
        Due.index("2 delete behind", () -> x.deleteLine(1, 15, 59));
        Due.index("2 delete below", () -> x.deleteLine(1, 15, -1));
        Due.index("2 delete without file", () -> x.deleteLine(1, 14, 0));
        Due.index("2 delete without path", () -> x.deleteLine(1, 16, 0));

        Due.is("2 remove", 59, () -> x.removeFile(1, 15));
        Due.is("2 removed", NONE, () -> x.fileLines(1, 15));
        Due.state("2 remove again", () -> x.removeFile(1, 15));
        Due.index("2 remove without path", () -> x.removeFile(0, 16));
        Due.is("2 the other repository has none", NONE, () -> x.fileLines(0, 15));
    }

    private static void promise3() {
        VersionWorks x = new VersionWorks();
        x.write(0, 3, 567);
        x.write(0, 5, 1);
        Due.state("3 to a path with a file", () -> x.moveFile(0, 3, 5));
        Due.state("3 to itself", () -> x.moveFile(0, 3, 3));
        Due.state("3 from nothing", () -> x.moveFile(0, 4, 6));
        Due.index("3 no such path", () -> x.moveFile(0, 3, 16));
        Due.is("3 move", 3, () -> x.moveFile(0, 3, 0));
        Due.is("3 gone", NONE, () -> x.fileLines(0, 3));
        Due.is("3 moved", 7, () -> x.fileLine(0, 0, 2));
        Due.index("3 line behind", () -> x.fileLine(0, 0, 3));
        Due.index("3 line below", () -> x.fileLine(0, 0, -1));
        Due.index("3 line of nothing", () -> x.fileLine(0, 3, 0));
        Due.index("3 fileLines without path", () -> x.fileLines(0, -1));
        Due.is("3 ignore", 0, () -> x.ignore(0, 0, true) ? 1 : 0);
        Due.is("3 ignored", 1, () -> x.ignore(0, 0, true) ? 1 : 0);
        Due.is("3 still ignored", 1, () -> x.ignore(0, 0, false) ? 1 : 0);
        Due.is("3 not any more", 0, () -> x.ignore(0, 0, false) ? 1 : 0);
        Due.index("3 ignore without path", () -> x.ignore(0, 16, true) ? 1 : 0);
    }

    private static void promise4() {
        VersionWorks x = new VersionWorks();
        x.write(0, 0, 1);
        x.write(0, 1, 2);
        x.write(0, 2, 3);
        x.add(0, 0);
        x.ignore(0, 1, true);
        Due.is("4 clean passes over tracked and ignored", 1, () -> x.clean(0));
        Due.is("4 tracked stays", 1, () -> x.fileLines(0, 0));
        Due.is("4 ignored stays", 1, () -> x.fileLines(0, 1));
        Due.is("4 other goes", NONE, () -> x.fileLines(0, 2));
        Due.is("4 clean again", 0, () -> x.clean(0));
        Due.index("4 clean nowhere", () -> x.clean(-1));
        Due.is("4 objects", 1, () -> x.objects(0));
        Due.is("4 kind", 0, () -> x.kind(0, 0));
        Due.index("4 not given", () -> x.kind(0, 1));
        Due.index("4 below", () -> x.kind(0, -1));
        x.tick(0, 9);
        Due.is("4 stamp", 0, () -> x.stamp(0, 0));
        x.add(0, 0);
        Due.is("4 stored again", 9, () -> x.stamp(0, 0));
        Due.index("4 stamp of none", () -> x.stamp(0, 1));
        x.write(0, 0, 4);
        x.add(0, 0);
        Due.is("4 collect", 1, () -> x.collect(0, 0));
        Due.is("4 collected", NONE, () -> x.kind(0, 0));
        Due.index("4 stamp of collected", () -> x.stamp(0, 0));
        Due.is("4 numbers given stay", 2, () -> x.objects(0));
        x.write(0, 0, 1);
        Due.is("4 a number is never used again", 2, () -> x.add(0, 0));
    }

    /** Blob 0, tree 1 of folder 1, root 2, commit 3 with author 4 and message 55, dated 6; tag object 4. */
    private static void promises5to7() {
        VersionWorks x = new VersionWorks();
        x.write(0, 6, 123);
        x.addAll(0);
        x.tick(0, 6);
        Due.is("9 commit", 3, () -> x.commit(0, 4, 55));
        Due.is("5 blobLines", 3, () -> x.blobLines(0, 0));
        Due.index("5 a tree is no blob", () -> x.blobLines(0, 1));
        Due.index("5 no object", () -> x.blobLines(0, MOST));
        Due.is("5 blobLine", 2, () -> x.blobLine(0, 0, 1));
        Due.index("5 no line", () -> x.blobLine(0, 0, 3));
        Due.index("5 no line below", () -> x.blobLine(0, 0, -1));
        Due.is("5 entry by name", 0, () -> x.entry(0, 1, 2));
        Due.is("5 entry none", NONE, () -> x.entry(0, 1, 3));
        Due.is("5 entry by folder", 1, () -> x.entry(0, 2, 1));
        Due.is("5 entry none of root", NONE, () -> x.entry(0, 2, 0));
        Due.index("5 place 4", () -> x.entry(0, 2, 4));
        Due.index("5 a commit is no tree", () -> x.entry(0, 3, 0));
        Due.is("5 rootTree", 2, () -> x.rootTree(0, 3));
        Due.index("5 a tree is no commit", () -> x.rootTree(0, 2));

        Due.is("6 no parent", NONE, () -> x.parent(0, 3, 0));
        Due.is("6 no second parent", NONE, () -> x.parent(0, 3, 1));
        Due.index("6 place 2", () -> x.parent(0, 3, 2));
        Due.index("6 place -1", () -> x.parent(0, 3, -1));
        Due.is("6 author", 4, () -> x.author(0, 3));
        Due.index("6 author of a tree", () -> x.author(0, 1));
        Due.is("6 date", 6, () -> x.date(0, 3));
        Due.is("6 message", 55, () -> x.message(0, 3));
        Due.index("6 date of a blob", () -> x.date(0, 0));
        Due.index("6 message of a tree", () -> x.message(0, 1));
        x.tick(0, 1);
        Due.is("13 annotate", 4, () -> x.annotate(0, 5, 3, 99));
        Due.is("6 date of a tag object", 7, () -> x.date(0, 4));
        Due.is("6 message of a tag object", 99, () -> x.message(0, 4));
        Due.index("6 author of a tag object", () -> x.author(0, 4));

        Due.is("7 tagged", 3, () -> x.tagged(0, 4));
        Due.index("7 tagged of a commit", () -> x.tagged(0, 3));
        Due.is("7 blobAt", 0, () -> x.blobAt(0, 3, 6));
        Due.is("7 blobAt nothing", NONE, () -> x.blobAt(0, 3, 5));
        Due.is("7 blobAt nothing in no folder", NONE, () -> x.blobAt(0, 3, 15));
        Due.index("7 blobAt path 16", () -> x.blobAt(0, 3, 16));
        Due.index("7 blobAt of a tag object", () -> x.blobAt(0, 4, 6));
        Due.is("7 no twin", NONE, () -> x.twin(0, 0));
        Due.index("7 twin of no object", () -> x.twin(0, 5));
        x.write(1, 0, 9);
        x.add(1, 0);
        x.write(1, 0, 123);
        x.add(1, 0);
        Due.is("7 twin of a blob", 1, () -> x.twin(0, 0));
        Due.is("7 twin back", 0, () -> x.twin(1, 1));
        Due.is("7 a tree without a twin", NONE, () -> x.twin(0, 1));
        x.moveFile(1, 0, 6);
        x.addAll(1);
        x.tick(1, 6);
        Due.is("7 the same history in the other repository", 4, () -> x.commit(1, 4, 55));
        Due.is("7 twin of a commit", 4, () -> x.twin(0, 3));
        x.amend(1, 3, 55);
        Due.is("7 the commit amended is present", 4, () -> x.twin(0, 3));
        Due.is("7 another author, no twin", NONE, () -> x.twin(1, x.head(1)));
    }

    private static void promise7add() {
        VersionWorks x = new VersionWorks();
        Due.state("7 add nothing", () -> x.add(0, 0));
        Due.index("7 add nowhere", () -> x.add(0, 16));
        x.write(0, 0, 12);
        x.write(0, 1, 12);
        x.ignore(0, 0, true);
        Due.is("7 add an ignored path", 0, () -> x.add(0, 0));
        Due.is("7 the same lines are one blob", 0, () -> x.add(0, 1));
        x.removeFile(0, 0);
        Due.is("7 add a removed file", NONE, () -> x.add(0, 0));
        Due.state("7 not tracked any more", () -> x.add(0, 0));
    }

    private static void promise8() {
        VersionWorks x = new VersionWorks();
        x.write(0, 2, 2);
        x.write(0, 1, 1);
        x.write(0, 9, 9);
        x.ignore(0, 9, true);
        Due.is("8 addAll by rising numbers, not the ignored", 2, () -> x.addAll(0));
        Due.is("8 indexed", 0, () -> x.indexed(0, 1));
        Due.is("8 indexed", 1, () -> x.indexed(0, 2));
        Due.is("8 not indexed", NONE, () -> x.indexed(0, 9));
        Due.is("8 addAll again", 0, () -> x.addAll(0));
        Due.index("8 addAll nowhere", () -> x.addAll(2));
        int commit = x.commit(0, 0, 0);
        x.removeFile(0, 1);
        x.write(0, 2, 22);
        x.add(0, 9);
        x.write(0, 9, 99);
        Due.is("8 addAll: removed, changed, tracked though ignored", 3, () -> x.addAll(0));
        Due.is("8 unstage", 1, () -> x.unstage(0, 2));
        Due.is("8 the file stays", 2, () -> x.fileLines(0, 2));
        Due.is("8 unstage what the head lacks", NONE, () -> x.unstage(0, 9));
        Due.is("8 unstage what was removed", 0, () -> x.unstage(0, 1));
        Due.index("8 unstage nowhere", () -> x.unstage(0, -1));
        Due.is("8 restore", 1, () -> x.restore(0, 2));
        Due.is("8 restored", 2, () -> x.fileLine(0, 2, 0));
        Due.is("8 restore a removed file", 1, () -> x.restore(0, 1));
        Due.state("8 restore without an entry", () -> x.restore(0, 9));
        Due.index("8 restore nowhere", () -> x.restore(0, 16));
        Due.index("8 indexed nowhere", () -> x.indexed(-1, 0));
        Due.is("8 the commit is the head", commit, () -> x.head(0));
    }

    private static void promise9() {
        VersionWorks x = new VersionWorks();
        Due.state("9 nothing to commit", () -> x.commit(0, 0, 0));
        x.write(0, 0, 1);
        Due.is("9 unstaged: the file alone", 1, () -> x.unstaged(0, 0));
        x.add(0, 0);
        Due.is("9 staged: the index alone", 1, () -> x.staged(0, 0));
        Due.is("9 unstaged: as the index", 0, () -> x.unstaged(0, 0));
        Due.argument("9 author 10", () -> x.commit(0, 10, 0));
        Due.argument("9 author -1", () -> x.commit(0, -1, 0));
        Due.argument("9 message 100", () -> x.commit(0, 0, 100));
        Due.argument("9 message -1", () -> x.commit(0, 0, -1));
        Due.index("9 repository ahead of author", () -> x.commit(3, 10, 0));
        Due.is("9 nothing was stored", 1, () -> x.objects(0));
        int base = x.commit(0, 9, 99);
        Due.is("9 staged: the same", 0, () -> x.staged(0, 0));
        Due.is("9 staged: nothing", 0, () -> x.staged(0, 1));
        Due.state("9 the index tells the head snapshot", () -> x.commit(0, 0, 0));
        x.write(0, 0, 2);
        Due.is("9 unstaged: other lines", 2, () -> x.unstaged(0, 0));
        x.add(0, 0);
        Due.is("9 staged: two different", 2, () -> x.staged(0, 0));
        x.removeFile(0, 0);
        Due.is("9 unstaged: no file", 3, () -> x.unstaged(0, 0));
        x.add(0, 0);
        Due.is("9 staged: the head alone", 3, () -> x.staged(0, 0));
        x.write(0, 4, 5);
        int second = x.commit(0, 0, 0);
        Due.is("9 the index, never the files", NONE, () -> x.blobAt(0, second, 4));
        Due.is("9 a root tree without any", NONE, () -> x.entry(0, x.rootTree(0, second), 0));
        Due.is("9 its parent", base, () -> x.parent(0, second, 0));
        Due.is("9 HEAD is moved", second, () -> x.branchAt(0, 0));
        Due.is("9 the act", 0, () -> x.reflogAct(0, 0));
        Due.is("9 stage without conflict", NONE, () -> x.stage(0, 0, 2));
        Due.index("9 stage 3", () -> x.stage(0, 0, 3));
        Due.index("9 stage -1", () -> x.stage(0, 0, -1));
        Due.index("9 staged nowhere", () -> x.staged(0, 16));
        Due.index("9 unstaged nowhere", () -> x.unstaged(0, 16));

        // A conflict: ours changes path 0 to 3, theirs to 4.
        x.write(0, 0, 1);
        x.add(0, 0);
        x.commit(0, 0, 1);
        x.branch(0, 1, x.head(0));
        x.write(0, 0, 3);
        x.add(0, 0);
        int ours = x.commit(0, 0, 2);
        x.removeFile(0, 4);
        x.switchTo(0, 1);
        x.write(0, 0, 4);
        x.add(0, 0);
        int theirs = x.commit(0, 0, 3);
        x.switchTo(0, 0);
        Due.is("22 merge stops", 3, () -> x.merge(0, theirs, 0, 0, 1, 1));
        Due.is("9 staged: conflict", 4, () -> x.staged(0, 0));
        Due.is("9 unstaged: conflict", 4, () -> x.unstaged(0, 0));
        Due.is("9 stage base", 0, () -> x.stage(0, 0, 0));
        Due.is("9 stage ours", x.blobAt(0, ours, 0), () -> x.stage(0, 0, 1));
        Due.is("9 stage theirs", x.blobAt(0, theirs, 0), () -> x.stage(0, 0, 2));
        Due.is("8 indexed at a conflict", NONE, () -> x.indexed(0, 0));
        Due.state("8 restore at a conflict", () -> x.restore(0, 0));
        Due.state("9 busy", () -> x.commit(0, 0, 0));
        Due.state("10 amend busy", () -> x.amend(0, 0, 0));
        Due.is("8 addAll: a conflict that is over counts", 1, () -> x.addAll(0));
        Due.is("7 marks of conflicts can be among the lines", 100, () -> x.blobLine(0, x.indexed(0, 0), 0));
        Due.is("8 unstage", x.blobAt(0, ours, 0), () -> x.unstage(0, 0));
        Due.state("9 still busy", () -> x.commit(0, 0, 0));
        Due.yes("isSound", x.isSound(0, 0));
    }
}
