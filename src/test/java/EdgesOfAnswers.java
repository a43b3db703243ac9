/** What the promises say of answers where there is none, or nothing, or where something is full, or ends. */
final class EdgesOfAnswers {
    private static final int NONE = VersionWorks.NONE;
    private static final int ROOT = Scenes.ROOT;
    private static final int TOP = Scenes.TOP;
    private static final int SIDE = Scenes.SIDE;

    public static void main(String[] args) {
        newObject();
        files();
        objects();
        index();
        refs();
        texts();
        history();
        differences();
        blames();
        merges();
        operations();
        mergedRows();
        transfers();
        packs();
        searches();
        stashes();
        rehearsals();
        for (String method : Doc.PARAMETERS.keySet()) {
            Edge.allSaid(method, "(NONE|; 0) if [^.;`]*");
            Edge.allSaid(method, "there is none\\)?");
        }
        Edge.end("EdgesOfAnswers");
    }

    private static void newObject() {
        Edge.says("part all", "two repositories");
        VersionWorks x = Scenes.empty();
        Due.same("both are the same", Whole.of(x, 0).replace("repository 0", ""),
                Whole.of(x, 1).replace("repository 1", ""));
        Due.index("no repository -1", () -> x.objects(-1));
        Due.index("no repository 2", () -> x.objects(2));
        String[] zero = {"objects", "clock", "reflog", "stashes", "operation", "todo", "reached", "dangling", "packSize",
            "headBranch"};
        for (String method : zero) {
            Due.same("1 " + method, "0", asked(x, method));
        }
        for (String method : new String[] {"head", "operationCommit", "left"}) {
            Due.same("1 " + method, "-1", asked(x, method));
        }
        Due.is("1 collect", 0, () -> x.collect(0, 0));
        Due.is("1 pack", 0, () -> x.pack(0, 8, 8));
        Due.is("1 clean", 0, () -> x.clean(0));
        Due.is("1 addAll", 0, () -> x.addAll(0));
        Due.is("1 fetch", 0, () -> x.fetch(0, 1));
        Due.is("1 pruneTracks", 0, () -> x.pruneTracks(0));
        Due.is("1 expireReflog", 0, () -> x.expireReflog(0, 0));
        Due.is("1 unstage", NONE, () -> x.unstage(0, 0));
        Due.is("1 staged", 0, () -> x.staged(0, 0));
        Due.is("1 unstaged", 0, () -> x.unstaged(0, 0));
        Due.is("1 changed", 0, () -> x.changed(0, NONE, NONE));
        Due.is("1 startBranch", NONE, () -> x.startBranch(0, 0));
        Due.index("1 no blob", () -> x.blobLines(0, 0));
        Due.index("1 no entry", () -> x.reflogCommit(0, 0));
        Due.index("1 no stash", () -> x.stashAt(0, 0));
        Due.index("1 nothing to do", () -> x.todoAt(0, 0));
        Due.index("1 nothing dangling", () -> x.danglingAt(0, 0));
        Due.index("1 nothing left", () -> x.leftAt(0, 0));
        Due.index("1 nothing merged", () -> x.mergedLines(0, 0, 0, 0));
        for (int part = 0; part <= 11; part++) {
            int p = part;
            Due.is("1 isSound", 1, () -> Edge.yes(x.isSound(1, p)));
        }
    }

    private static String asked(VersionWorks x, String method) {
        try {
            return Pair.methods(VersionWorks.class).get(method).invoke(x, 1).toString();
        } catch (ReflectiveOperationException e) {
            return e.toString();
        }
    }

    private static void files() {
        Edge.Scene ends = Scenes::ends;
        Edge.is("write", "0 stands for a file without lines", 0, ends, x -> x.write(0, 0, 0));
        Edge.is("write", "in place of one that is there", 1, ends, x -> x.write(0, 0, 5) == 1 ? x.fileLines(0, 0) : 9);
        Edge.is("write", "the first digit first", 9, ends, x -> x.write(0, 0, 91) == 2 ? x.fileLine(0, 0, 0) : 0);
        Edge.says("insertLine", "`place`: 0 to the number of its lines (0 alone, if there is no file)");
        Due.is("at 0", 7, () -> ends.make().insertLine(0, 0, 0, 9));
        Due.is("at their number", 7, () -> ends.make().insertLine(0, 0, 6, 9));
        Edge.index("insertLine", "place is not as told", ends, x -> x.insertLine(0, 0, 7, 9));
        Edge.index("insertLine", "place is not as told", ends, x -> x.insertLine(0, 0, -1, 9));
        Edge.state("insertLine", "there is no file at the path", ends, x -> x.insertLine(0, 1, 0, 9));
        Edge.index("insertLine", "place is not as told", ends, x -> x.insertLine(0, 1, 1, 9));
        Edge.says("insertLine", "the lines from that place on move on by one");
        Due.is("the other repository, which has another row there", 1, () -> {
            VersionWorks y = ends.make();
            y.write(0, 0, 8);
            return y.deleteLine(1, 0, 0);
        });
        VersionWorks x = ends.make();
        x.insertLine(0, 0, 1, 99);
        Due.same("they moved", "1 99 2 3 4 5 9", lines(x, 0));
        Edge.says("deleteLine", "the lines behind it move up by one");
        x.deleteLine(0, 0, 0);
        Due.same("they moved up", "99 2 3 4 5 9", lines(x, 0));
        x.deleteLine(0, 0, 5);
        Due.same("the last one", "99 2 3 4 5", lines(x, 0));
        VersionWorks z = ends.make();
        Due.is("of the last path", 3, () -> z.deleteLine(0, 15, 2));
        Due.same("of the last path", "1 2 4 5 9", lines(z, 15));
        z.insertLine(0, 15, 4, 88);
        Due.same("of the last path", "1 2 4 5 88 9", lines(z, 15));
        Due.same("the first path stays", "1 2 3 4 5 9", lines(z, 0));
        z.removeFile(0, 0);
        z.moveFile(0, 15, 0);
        Due.same("moved whole", "1 2 4 5 88 9", lines(z, 0));
        Edge.says("deleteLine", "where there is no file there is none");
        Edge.index("deleteLine", "where there is no file there is none", ends, y -> y.deleteLine(0, 1, 0));
        Edge.Scene none = () -> {
            VersionWorks y = Scenes.ends();
            y.write(0, 0, 0);
            return y;
        };
        Edge.index("deleteLine", "the file has no such line", none, y -> y.deleteLine(0, 0, 0));
        Edge.says("fileLine", "where there is no file there is none");
        Edge.index("fileLine", "where there is no file there is none", ends, y -> y.fileLine(0, 1, 0));
        Edge.index("fileLine", "the file has no such line", none, y -> y.fileLine(0, 0, 0));
        Edge.is("fileLines", "NONE if there is no file", NONE, ends, y -> y.fileLines(0, 1));
        Due.is("a file without lines is there", 0, () -> none.make().fileLines(0, 0));
        Edge.is("removeFile", "Returns how many lines it had", 0, none, y -> y.removeFile(0, 0));
        Edge.is("moveFile", "Returns how many lines it has", 0, none, y -> y.moveFile(0, 0, 1));
        Due.is("it is there", 0, () -> {
            VersionWorks y = none.make();
            y.moveFile(0, 0, 1);
            return y.fileLines(0, 1);
        });
        Edge.is("ignore", "Returns whether it was ignored", 0, ends, y -> Edge.yes(y.ignore(0, 0, true)));
        Edge.is("clean", "Removes the files at all paths that are neither tracked nor ignored", 1, ends,
                y -> y.clean(0));
        Due.is("a conflict is tracked, also without an entry", 1, () -> {
            VersionWorks y = Scenes.stopped();
            y.clean(0);
            return y.fileLines(0, 0) > 0 && y.fileLines(0, 11) == NONE ? 1 : 0;
        });
        Due.is("a file without lines goes", 1, () -> {
            VersionWorks y = Scenes.empty();
            y.write(0, 15, 0);
            return y.clean(0);
        });
    }

    private static String lines(VersionWorks x, int path) {
        StringBuilder out = new StringBuilder();
        for (int k = 0; k < x.fileLines(0, path); k++) {
            out.append(k == 0 ? "" : " ").append(x.fileLine(0, path, k));
        }
        return out.toString();
    }

    private static void objects() {
        Edge.Scene ends = Scenes::ends;
        Edge.is("objects", "they are 0 to that less 1", Scenes.COUNT, ends, x -> x.objects(0));
        Edge.is("kind", "NONE if it was collected", NONE, ends, x -> x.kind(0, Scenes.GONE));
        Edge.is("entry", "NONE if it has none there", NONE, ends, x -> x.entry(0, Scenes.TREE, 1));
        Edge.is("parent", "NONE if it has no such one", NONE, ends, x -> x.parent(0, ROOT, 0));
        Due.is("no second one", NONE, () -> ends.make().parent(0, TOP, 1));
        Edge.index("parent", "place is not 0 or 1", ends, x -> x.parent(0, TOP, 2));
        Edge.index("parent", "place is not 0 or 1", ends, x -> x.parent(0, TOP, -1));
        Edge.is("blobAt", "NONE if it has none", NONE, ends, x -> x.blobAt(0, TOP, 1));
        Due.is("in a folder that is not there", NONE, () -> ends.make().blobAt(0, TOP, 8));
        Edge.Scene empty = () -> {
            VersionWorks x = Scenes.empty();
            x.write(0, 0, 0);
            x.add(0, 0);
            return x;
        };
        Due.is("a blob without lines", 0, () -> empty.make().blobLines(0, 0));
        Edge.index("blobLine", "it has no such line", empty, x -> x.blobLine(0, 0, 0));
        Edge.is("twin", "NONE if it has none", NONE, empty, x -> x.twin(0, 0));
        Due.is("the other one has it", 0, () -> {
            VersionWorks x = empty.make();
            x.write(1, 7, 0);
            x.add(1, 7);
            return x.twin(0, 0);
        });
        Due.is("it was collected over there", NONE, () -> {
            VersionWorks x = empty.make();
            x.write(1, 7, 0);
            x.add(1, 7);
            x.unstage(1, 7);
            x.collect(1, 0);
            return x.twin(0, 0);
        });
    }

    private static void index() {
        Edge.Scene ends = Scenes::ends;
        Edge.Scene gone = () -> {
            VersionWorks x = Scenes.ends();
            x.removeFile(0, 0);
            return x;
        };
        Edge.is("add", "NONE if it has nothing", NONE, gone, x -> x.add(0, 0));
        Edge.is("add", "also an ignored one", Scenes.BLOB, () -> {
            VersionWorks x = Scenes.ends();
            x.ignore(0, 1, true);
            x.write(0, 1, 12345);
            return x;
        }, x -> x.add(0, 1));
        Edge.is("addAll", "a conflict that is over counts", 2, Scenes::stopped, x -> x.addAll(0) - 1);
        Due.is("also if the index has nothing then, as it counted as nothing", 1, () -> {
            VersionWorks x = Scenes.clashed();
            x.removeFile(0, 7);
            x.clean(0);
            return x.addAll(0);
        });
        Edge.is("unstage", "NONE if it has nothing", NONE, () -> {
            VersionWorks x = Scenes.ends();
            x.add(0, 11);
            return x;
        }, x -> x.unstage(0, 11));
        Due.is("without a head commit", NONE, () -> Scenes.unborn().unstage(0, 0));
        Edge.is("unstage", "a conflict there is over", 0, Scenes::stopped,
                x -> x.unstage(0, 0) > 0 ? x.staged(0, 0) : 9);
        Edge.is("unstage", "The file stays", 10, Scenes::stopped,
                x -> x.unstage(0, 0) > 0 ? x.fileLines(0, 0) : 0);
        Edge.is("indexed", "NONE if it has nothing there, or a conflict", NONE, ends, x -> x.indexed(0, 11));
        Due.is("a conflict", NONE, () -> Scenes.stopped().indexed(0, 0));
        Edge.is("stage", "NONE if that stage is none, or there is no conflict", NONE, ends, x -> x.stage(0, 0, 1));
        Due.is("that stage is none", NONE, () -> Scenes.reverting().stage(0, 0, 2));
        Due.yes("the others are not", Scenes.reverting().stage(0, 0, 0) >= 0 && Scenes.reverting().stage(0, 0, 1) >= 0);
        staged();
    }

    private static void staged() {
        Edge.Scene ends = Scenes::ends;
        Edge.is("staged", "Returns 0 if both have the same blob, or both nothing", 0, ends, x -> x.staged(0, 0));
        Due.is("both nothing", 0, () -> ends.make().staged(0, 11));
        Edge.is("staged", "1 if the index alone has one", 1, Scenes::unborn, x -> x.staged(0, 0));
        Edge.is("staged", "2 if they have two different ones", 2, Scenes::solved, x -> x.staged(0, 0));
        Edge.is("staged", "3 if the head snapshot alone has one", 3, ends, x -> {
            x.removeFile(0, 0);
            x.add(0, 0);
            return x.staged(0, 0);
        });
        Edge.is("staged", "4 if there is a conflict", 4, Scenes::stopped, x -> x.staged(0, 0));
        Edge.is("unstaged", "Returns 0 if the file is as the index", 0, ends, x -> x.unstaged(0, 0));
        Due.is("nothing and no file", 0, () -> ends.make().unstaged(0, 1));
        Edge.is("unstaged", "1 if there is a file and the index has nothing", 1, ends, x -> x.unstaged(0, 11));
        Due.is("a file without lines", 1, () -> {
            VersionWorks x = Scenes.empty();
            x.write(0, 0, 0);
            return x.unstaged(0, 0);
        });
        Edge.is("unstaged", "2 if the file has other lines than the entry", 2, ends, x -> {
            x.write(0, 0, 0);
            return x.unstaged(0, 0);
        });
        Due.is("one line fewer", 2, () -> {
            VersionWorks x = ends.make();
            x.deleteLine(0, 0, 5);
            return x.unstaged(0, 0);
        });
        Edge.is("unstaged", "3 if there is an entry and no file", 3, ends, x -> {
            x.removeFile(0, 0);
            return x.unstaged(0, 0);
        });
        Edge.is("unstaged", "4 if there is a conflict", 4, Scenes::stopped, x -> x.unstaged(0, 0));
        Due.is("also if the file is as a stage", 4, () -> {
            VersionWorks x = Scenes.stopped();
            x.takeStage(0, 0, 1);
            return x.unstaged(0, 0);
        });
    }

    private static void refs() {
        Edge.Scene ends = Scenes::ends;
        Edge.is("amend", "the index may tell the same snapshot as before", TOP, ends, x -> x.amend(0, 9, 99));
        Edge.is("moveBranch", "or at the same", TOP, ends, x -> x.moveBranch(0, 5, TOP));
        Edge.is("startBranch", "NONE if there was none", NONE, Scenes::empty, x -> x.startBranch(0, 5));
        Due.is("there was one", TOP, () -> ends.make().startBranch(0, 4));
        Edge.is("startBranch", "nothing is put into the reflog", 5, ends, x -> x.startBranch(0, 4) < 0 ? 0 : x.reflog(0));
        Edge.is("detach", "NONE if there was none", NONE, () -> {
            VersionWorks x = Scenes.ends();
            x.startBranch(0, 1);
            for (int p : new int[] {0, 7, 15}) {
                x.removeFile(0, p);
                x.add(0, p);
            }
            return x;
        }, x -> x.detach(0, TOP));
        Due.is("there was one", TOP, () -> ends.make().detach(0, ROOT));
        Edge.is("reset", "NONE if there was none", NONE, Scenes::unborn, x -> x.reset(0, TOP, 2));
        Due.is("there was one", TOP, () -> ends.make().reset(0, ROOT, 2));
        Edge.is("renameBranch", "HEAD, if it is on the branch, goes with it", 1, ends,
                x -> x.renameBranch(0, 2, 1) == TOP ? x.headBranch(0) : 9);
        Due.is("else it stays", 2, () -> {
            VersionWorks x = ends.make();
            x.renameBranch(0, 5, 1);
            return x.headBranch(0);
        });
        for (int from : new int[] {2, 5}) {
            VersionWorks x = ends.make();
            Due.is("the commit at which it is", TOP, () -> x.renameBranch(0, from, 4));
            Due.is("there", TOP, () -> x.branchAt(0, 4));
            Due.is("not there any more", NONE, () -> x.branchAt(0, from));
            Due.is("the head commit stays", TOP, () -> x.head(0));
        }
        Edge.is("startBranch", "it is unborn until HEAD is moved", NONE, () -> {
            VersionWorks x = Scenes.ends();
            x.detach(0, TOP);
            return x;
        }, x -> x.startBranch(0, 4) == TOP ? x.head(0) : 9);
        Due.is("till HEAD is moved", ROOT, () -> {
            VersionWorks x = ends.make();
            x.detach(0, TOP);
            x.startBranch(0, 4);
            x.reset(0, ROOT, 0);
            return x.branchAt(0, 4);
        });
        Due.is("from a detached HEAD nothing reaches what it was at", 0, () -> {
            VersionWorks x = Scenes.line(2);
            x.detach(0, x.head(0));
            int made = Scenes.commit(x, 0, 0, 5, 5);
            x.startBranch(0, 4);
            x.expireReflog(0, 0);
            return Edge.yes(x.isReached(0, made));
        });
        Edge.is("head", "NONE if there is none", NONE, Scenes::unborn, x -> x.head(0));
        Edge.is("headBranch", "also an unborn one", 1, Scenes::unborn, x -> x.headBranch(0));
        Edge.is("headBranch", "NONE if HEAD is detached", NONE, ends, x -> x.detach(0, TOP) < 0 ? 9 : x.headBranch(0));
        Edge.is("branchAt", "NONE if it is not there", NONE, ends, x -> x.branchAt(0, 1));
        Due.is("unborn", NONE, () -> Scenes.unborn().branchAt(0, 1));
        Edge.is("tagAt", "NONE if it is not there", NONE, ends, x -> x.tagAt(0, 1));
        Edge.is("trackAt", "NONE if it is not there", NONE, ends, x -> x.trackAt(0, 1));
        Edge.is("branch", "Returns how many branches are there then", 5, ends, x -> x.branch(0, 1, ROOT));
        Due.is("all six", 6, () -> {
            VersionWorks x = ends.make();
            x.branch(0, 1, ROOT);
            return x.branch(0, 4, ROOT);
        });
        Edge.is("tag", "Returns how many tags are there then", 3, ends, x -> x.tag(0, 1, ROOT));
    }

    private static void texts() {
        Edge.is("type", "Returns how many it has then", 1, Scenes::empty, x -> x.type(33));
        Edge.is("clearText", "returns how many characters it had", 0, Scenes::empty, x -> x.clearText());
        Due.is("60", 60, () -> Scenes.typed("H".repeat(60)).clearText());
        Due.is("cleared", 0, () -> {
            VersionWorks x = Scenes.typed("H");
            x.clearText();
            return x.clearText();
        });
        Edge.is("fault", "NONE if it has none", NONE, () -> Scenes.typed("H"), x -> x.fault());
        Edge.is("listed", "NONE if it lists no more than place", NONE, () -> Scenes.typed("H"), x -> x.listed(0, 2));
        Due.is("the last one", ROOT, () -> Scenes.typed("H").listed(0, 1));
        Due.is("the list is empty", NONE, () -> Scenes.typed("H..H").listed(0, 0));
        Due.is("far behind", NONE, () -> Scenes.typed("H").listed(0, Integer.MAX_VALUE));
        Edge.index("listed", "place is below 0", () -> Scenes.typed("H"), x -> x.listed(0, -1));
        Edge.index("listed", "place is below 0", () -> Scenes.typed("B1"), x -> x.listed(0, -1));
    }

    private static void history() {
        Edge.Scene ends = Scenes::ends;
        Edge.is("isAncestor", "each is one of its own", 1, ends, x -> Edge.yes(x.isAncestor(0, ROOT, ROOT)));
        Due.is("not the other way", 0, () -> Edge.yes(ends.make().isAncestor(0, TOP, ROOT)));
        Edge.is("describe", "NONE if there is none", NONE, Scenes::bare, x -> x.describe(0, TOP));
        Due.is("a tag of no ancestor", NONE, () -> {
            VersionWorks x = Scenes.bare();
            x.tag(0, 1, TOP);
            return x.describe(0, ROOT);
        });
        Edge.is("containing", "branch b is bit b", 1 | 4 | 8 | 32, ends, x -> x.containing(0, ROOT));
        Due.is("none at all", 0, () -> {
            VersionWorks x = Scenes.bare();
            x.startBranch(0, 1);
            x.deleteBranch(0, 2, true);
            return x.containing(0, ROOT);
        });
        Edge.says("bases", "Returns how many merge bases two commits have");
        Due.is("of one with itself", 1, () -> ends.make().bases(0, TOP, TOP));
        VersionWorks x = Scenes.unborn();
        int other = x.commit(0, 0, 0);
        Due.is("of two without a common ancestor", 0, () -> x.bases(0, TOP, other));
        Due.index("no such base", () -> x.base(0, TOP, other, 0));
        Due.is("ahead by all", 1, () -> x.ahead(0, other, TOP));
        Due.is("ahead by all", 2, () -> x.ahead(0, TOP, other));
        Due.is("ahead of itself", 0, () -> x.ahead(0, TOP, TOP));
    }

    private static void differences() {
        Edge.Scene ends = Scenes::ends;
        for (String method : new String[] {"diffSize", "diffPair", "hunks", "hunkStart", "hunkLength"}) {
            Edge.says(method, "`from`: the old blob, or NONE for no lines");
            Edge.says(method, "`to`: the new blob, or NONE for no lines");
        }
        int blob = Scenes.BLOB;
        Due.is("none to none", 0, () -> ends.make().diffSize(0, NONE, NONE));
        Due.is("all added", 5, () -> ends.make().diffSize(0, NONE, blob));
        Due.is("all removed", 5, () -> ends.make().diffSize(0, blob, NONE));
        Due.is("a pair", 4, () -> ends.make().diffPair(0, blob, blob, 4));
        Edge.is("diffPair", "NONE if that old line is removed", NONE, ends, x -> x.diffPair(0, blob, NONE, 4));
        Edge.index("diffPair", "there is no such old line", ends, x -> x.diffPair(0, blob, blob, 5));
        Edge.index("diffPair", "there is no such old line", ends, x -> x.diffPair(0, NONE, blob, 0));
        Due.is("no hunks of none", 0, () -> ends.make().hunks(0, NONE, NONE, 9));
        Due.is("no hunks of the same", 0, () -> ends.make().hunks(0, blob, blob, 9));
        Due.is("a hunk of what is added", 1, () -> ends.make().hunks(0, NONE, blob, 0));
        Due.is("it starts at the front", 0, () -> ends.make().hunkStart(0, NONE, blob, 0, 0, true));
        Due.is("it starts at the front", 0, () -> ends.make().hunkStart(0, NONE, blob, 0, 0, false));
        Due.is("it has no old line", 0, () -> ends.make().hunkLength(0, NONE, blob, 9, 0, false));
        Due.is("it has all new lines", 5, () -> ends.make().hunkLength(0, NONE, blob, 9, 0, true));
        Due.is("it has all old lines", 5, () -> ends.make().hunkLength(0, blob, NONE, 0, 0, false));
        for (String method : new String[] {"hunkStart", "hunkLength"}) {
            String words = "there is no such hunk (by a context that is out of range there are none)";
            for (int context : new int[] {-1, 10}) {
                Edge.index(method, words, ends, x -> method.equals("hunkStart") ? x.hunkStart(0, NONE, blob, context, 0, true)
                        : x.hunkLength(0, NONE, blob, context, 0, true));
            }
            for (int hunk : new int[] {-1, 1}) {
                Edge.index(method, words, ends, x -> method.equals("hunkStart") ? x.hunkStart(0, NONE, blob, 3, hunk, true)
                        : x.hunkLength(0, NONE, blob, 3, hunk, true));
            }
            Edge.index(method, words, ends, x -> method.equals("hunkStart") ? x.hunkStart(0, blob, blob, 3, 0, true)
                    : x.hunkLength(0, blob, blob, 3, 0, true));
        }
        Edge.says("likeness", "Returns the likeness of two blobs, 0 to 100");
        Edge.says("changed", "`from`: a commit, or NONE for a snapshot without any blob");
        Due.is("from none", 1 | 1 << 15, () -> ends.make().changed(0, NONE, ROOT));
        Edge.says("changed", "`to`: a commit, or NONE for a snapshot without any blob");
        Due.is("to none", 1 | 1 << 7 | 1 << 15, () -> ends.make().changed(0, TOP, NONE));
        Due.is("none to none", 0, () -> ends.make().changed(0, NONE, NONE));
        Edge.index("changed", "from or to is neither NONE nor a commit", ends, x -> x.changed(0, -2, TOP));
        Edge.is("renamedFrom", "NONE if it was not", NONE, ends, x -> x.renamedFrom(0, ROOT, TOP, 7, 1));
    }

    private static void blames() {
        Edge.Scene ends = Scenes::ends;
        String none = "no such line (where there is no blob there is none)";
        for (String method : new String[] {"blame", "blamePath", "blamePlace"}) {
            Edge.says(method, none);
            for (int path : new int[] {1, 8}) {
                Edge.index(method, none, ends, x -> origin(x, method, path, 0));
            }
            for (int place : new int[] {-1, 6}) {
                Edge.index(method, none, ends, x -> origin(x, method, 0, place));
            }
        }
        Due.is("the last line", TOP, () -> origin(ends.make(), "blame", 0, 5));
        Due.is("the one ahead of it", ROOT, () -> origin(ends.make(), "blame", 0, 4));
        Due.is("its path", 0, () -> origin(ends.make(), "blamePath", 0, 4));
        Due.is("its place", 4, () -> origin(ends.make(), "blamePlace", 0, 4));
        Due.is("no commits of a path that never was", 0, () -> ends.make().pathLog(0, TOP, 1));
        Edge.index("pathLogAt", "the history has no such place", ends, x -> x.pathLogAt(0, TOP, 1, 0));
        Edge.index("pathLogAt", "the history has no such place", ends, x -> x.pathLogAt(0, TOP, 0, 2));
        Edge.index("pathLogAt", "the history has no such place", ends, x -> x.pathLogAt(0, TOP, 0, -1));
    }

    private static long origin(VersionWorks x, String method, int path, int place) {
        return method.equals("blame") ? x.blame(0, TOP, path, place, 50)
                : method.equals("blamePath") ? x.blamePath(0, TOP, path, place, 50) : x.blamePlace(0, TOP, path, place, 50);
    }

    private static void merges() {
        Edge.Scene ends = Scenes::ends;
        String ancestor = "If it is an ancestor of the head commit, nothing is done";
        Edge.says("merge", ancestor);
        for (int mode = 0; mode <= 2; mode++) {
            int m = mode;
            VersionWorks x = ends.make();
            String before = Whole.of(x);
            Due.is("an ancestor", 0, () -> x.merge(0, ROOT, m, 0, 0, 0));
            Due.is("the head commit itself", 0, () -> x.merge(0, TOP, m, 0, 0, 0));
            Due.same("nothing is done", "", Whole.difference(before, Whole.of(x)));
        }
        Edge.Scene back = () -> {
            VersionWorks x = Scenes.ends();
            x.switchTo(0, 0);
            return x;
        };
        Edge.is("merge", "if the head commit is an ancestor of it, and mode is not 1", 1, back,
                x -> x.merge(0, TOP, 0, 0, 0, 0));
        Due.is("mode 2", 1, () -> back.make().merge(0, TOP, 2, 0, 0, 0));
        Due.is("mode 1", 2, () -> back.make().merge(0, TOP, 1, 0, 0, 0));
        VersionWorks x = back.make();
        x.merge(0, TOP, 0, 0, 0, 0);
        Due.is("the commit itself", TOP, () -> x.head(0));
        Due.is("the act", 4, () -> x.reflogAct(0, 0));
        Edge.says("merge", "Returns 0 if nothing was done, 1 for a fast-forward, 2 if a commit was made, "
                + "3 if it stopped at conflicts.");
        Due.is("3", 3, () -> ends.make().merge(0, SIDE, 0, 0, 0, 0));
        Due.is("2", 2, () -> ends.make().merge(0, SIDE, 0, 1, 0, 0));
        for (String method : new String[] {"cherryPick", "revert"}) {
            Edge.says(method, "Returns 0 if no path was touched, 2 if a commit was made, 3 if it stopped at conflicts.");
            Edge.says(method, "`mainline`: 0 if the commit has one parent at most, 1 or 2 for the first or the second "
                    + "one of its two");
        }
        Due.is("no path touched", 0, () -> ends.make().cherryPick(0, TOP, 0, 0));
        Due.is("a commit", 2, () -> ends.make().cherryPick(0, SIDE, 0, 1));
        Due.is("conflicts", 3, () -> ends.make().cherryPick(0, SIDE, 0, 0));
        Due.is("no path touched", 0, () -> ends.make().revert(0, SIDE, 0, 1, 0, 0));
        Due.is("a commit", 2, () -> ends.make().revert(0, TOP, 0, 0, 0, 0));
        Due.is("conflicts", 3, () -> ends.make().revert(0, ROOT, 0, 0, 0, 0));
        Due.is("no path touched", 0, () -> {
            VersionWorks y = ends.make();
            y.revert(0, TOP, 0, 0, 0, 0);
            return y.revert(0, TOP, 0, 0, 0, 0);
        });
        Edge.says("rebase", "Returns 2 if the rebase is over, 3 if it stopped at conflicts.");
        Due.is("over", 2, () -> ends.make().rebase(0, SIDE, SIDE, 2));
        Due.is("stopped", 3, () -> ends.make().rebase(0, SIDE, SIDE, 0));
    }

    private static void operations() {
        Edge.Scene stopped = Scenes::stopped;
        Edge.is("takeStage", "NONE if there is none", NONE, Scenes::reverting, x -> x.takeStage(0, 0, 2));
        Edge.is("takeStage", "if that stage is none, there is no file then", NONE, Scenes::reverting,
                x -> x.takeStage(0, 0, 2) == NONE ? x.fileLines(0, 0) : 9);
        Edge.is("takeStage", "The conflict stays", 4, Scenes::reverting,
                x -> x.takeStage(0, 0, 2) == NONE ? x.staged(0, 0) : 9);
        Edge.is("mergeFile", "with the lines of the other one, if ours or theirs is none", 6, Scenes::reverting,
                x -> x.mergeFile(0, 0, 2) == 0 ? x.fileLines(0, 0) : 9);
        Edge.is("mergeFile", "; 0 if ours or theirs is none", 0, Scenes::reverting, x -> x.mergeFile(0, 0, 0));
        Edge.says("mergeFile", "Returns how many stretches clash, whatever the favour is");
        for (int favour = 0; favour <= 2; favour++) {
            int f = favour;
            Due.is("one clashes", 1, () -> stopped.make().mergeFile(0, 0, f));
            Due.is("its lines", f == 0 ? 10 : 6, () -> {
                VersionWorks x = stopped.make();
                x.mergeFile(0, 0, f);
                return x.fileLines(0, 0);
            });
        }
        Edge.is("mergeFile", "The conflict stays", 4, stopped, x -> x.mergeFile(0, 0, 1) == 1 ? x.staged(0, 0) : 9);
        Edge.says("operation", "0 none, 1 merge, 2 cherry-pick, 3 revert, 4 rebase");
        Due.is("none", 0, () -> Scenes.ends().operation(0));
        Due.is("merge", 1, () -> stopped.make().operation(0));
        Due.is("cherry-pick", 2, () -> Scenes.picking().operation(0));
        Due.is("revert", 3, () -> Scenes.reverting().operation(0));
        Due.is("rebase", 4, () -> Scenes.rebasing().operation(0));
        Due.is("a stash is none", 0, () -> Scenes.clashed().operation(0));
        Edge.is("operationCommit", "NONE if no operation is in progress", NONE, Scenes::ends, x -> x.operationCommit(0));
        Due.is("merged", SIDE, () -> stopped.make().operationCommit(0));
        Due.is("picked", SIDE, () -> Scenes.picking().operationCommit(0));
        Due.is("reverted", ROOT, () -> Scenes.reverting().operationCommit(0));
        Due.is("at which the rebase stopped", SIDE, () -> Scenes.rebasing().operationCommit(0));
        Due.is("aborted", NONE, () -> {
            VersionWorks x = Scenes.rebasing();
            x.abort(0);
            return x.operationCommit(0);
        });
        Edge.is("todo", "without the one at which it stopped; 0 if none is in progress", 0, Scenes::ends, x -> x.todo(0));
        Due.is("two are still to do", 2, () -> Scenes.rebasing().todo(0));
        Due.is("a merge has none", 0, () -> stopped.make().todo(0));
        Due.is("aborted", 0, () -> {
            VersionWorks x = Scenes.rebasing();
            x.abort(0);
            return x.todo(0);
        });
        Edge.index("todoAt", "no such commit to do", Scenes::rebasing, x -> x.todoAt(0, 2));
        Edge.index("todoAt", "no such commit to do", Scenes::ends, x -> x.todoAt(0, 0));
        Edge.index("todoAt", "no such commit to do", stopped, x -> x.todoAt(0, 0));
        Edge.is("abort", "Returns the head commit then", TOP, stopped, x -> x.abort(0));
        Due.is("of a rebase", 7, () -> {
            VersionWorks x = Scenes.rebasing();
            return x.abort(0) == x.branchAt(0, 3) ? 7 : 0;
        });
        Edge.says("proceed", "Returns 2 if it is over, 3 if a rebase stopped at conflicts anew.");
        Due.is("over", 2, () -> Scenes.solved().proceed(0));
        Due.is("anew", 3, () -> {
            VersionWorks x = Scenes.rebasing();
            x.unstage(0, 0);
            x.unstage(0, 15);
            x.unstage(0, 8);
            x.removeFile(0, 8);
            return x.proceed(0);
        });
    }

    private static void mergedRows() {
        Edge.Scene gone = () -> {
            VersionWorks x = Scenes.ends();
            x.removeFile(0, 0);
            x.add(0, 0);
            x.commit(0, 0, 0);
            return x;
        };
        int head = gone.make().head(0);
        Edge.is("mergedLines", "NONE if the result is nothing", NONE, gone, x -> x.mergedLines(0, head, TOP, 0));
        Edge.index("mergedLine", "there is no such line (where the result is nothing there is none)", gone,
                x -> x.mergedLine(0, head, TOP, 0, 0));
        Edge.says("mergedLine", "(where the result is nothing there is none)");
        Due.is("a conflict leaves the lines of the one that has some", 6, () -> gone.make().mergedLines(0, head, SIDE, 0));
        Due.is("the other way", 6, () -> gone.make().mergedLines(0, SIDE, head, 0));
        Edge.index("mergedLine", "there is no such line", gone, x -> x.mergedLine(0, head, SIDE, 0, 6));
        Edge.is("baseLines", "NONE if it has nothing", NONE, gone, x -> x.baseLines(0, TOP, SIDE, 7));
        Due.is("it has something", 5, () -> gone.make().baseLines(0, TOP, SIDE, 0));
        Edge.index("baseLine", "no such line (where it has nothing there is none)", gone,
                x -> x.baseLine(0, TOP, SIDE, 7, 0));
        Edge.says("baseLine", "(where it has nothing there is none)");
        Edge.index("baseLine", "no such line", gone, x -> x.baseLine(0, TOP, SIDE, 0, 5));
        Due.is("of a commit and itself: its own snapshot", 6, () -> gone.make().baseLines(0, TOP, TOP, 0));
        Edge.Scene apart = () -> {
            VersionWorks x = Scenes.unborn();
            x.commit(0, 0, 0);
            return x;
        };
        int other = apart.make().head(0);
        Due.is("without a common ancestor", NONE, () -> apart.make().baseLines(0, other, TOP, 0));
        Due.is("the same lines on both sides", 0, () -> apart.make().wouldClash(0, other, TOP));
        Due.is("other lines, without a base", 1 | 1 << 15, () -> apart.make().wouldClash(0, other, SIDE));
        Due.is("nothing to clash with itself", 0, () -> apart.make().wouldClash(0, other, other));
    }

    private static void transfers() {
        Edge.Scene ends = Scenes::ends;
        Edge.Scene more = () -> {
            VersionWorks x = Scenes.ends();
            Scenes.commit(x, 0, 7, 881, 1);
            return x;
        };
        Edge.is("fetch", "NONE if the transfer broke off", NONE, more, x -> x.fetch(1, 3));
        Edge.is("fetch", "Returns how many tracks and tags are at another object than before, or were not there before", 1,
                more, x -> x.fetch(1, 4));
        Due.is("none", 0, () -> ends.make().fetch(1, 240));
        Due.is("four tracks, one to another object, two tags", 7, () -> {
            VersionWorks x = more.make();
            x.branch(0, 1, ROOT);
            x.tag(0, 1, ROOT);
            x.tag(0, 3, SIDE);
            x.pruneTracks(1);
            for (int n : new int[] {0, 3, 5}) {
                x.deleteBranch(0, n, true);
            }
            x.pruneTracks(1);
            for (int n : new int[] {0, 3, 5}) {
                x.branch(0, n, n == 3 ? SIDE : ROOT);
            }
            return x.fetch(1, 240);
        });
        Edge.is("push", "NONE if the transfer broke off", NONE, more, x -> x.push(0, 2, 1, 0, 3));
        Edge.is("push", "Returns the number that the commit has in the other repository", Scenes.COUNT + 3, more,
                x -> x.push(0, 2, 1, 0, 4));
        Due.is("of one that is there", TOP, () -> ends.make().push(0, 2, 1, 0, 1));
        Edge.is("pushDelete", "Returns the commit, by its number in the other repository, at which it was", TOP, ends,
                x -> x.pushDelete(0, 5));
        Edge.is("pruneTracks", "Returns how many there were", 0, ends, x -> x.pruneTracks(0));
        Due.is("three", 3, () -> {
            VersionWorks x = Scenes.bare();
            return x.pruneTracks(0);
        });
        Edge.is("wouldSend", "; 0 if it has a twin there", 0, ends, x -> x.wouldSend(0, TOP));
        Due.is("four", 4, () -> {
            VersionWorks x = more.make();
            return x.wouldSend(0, x.head(0));
        });
        Due.is("from the other one", 4, () -> {
            VersionWorks x = ends.make();
            Scenes.commit(x, 1, 7, 881, 1);
            return x.wouldSend(1, x.head(1));
        });
        Due.is("deleted from the other one", TOP, () -> {
            VersionWorks x = ends.make();
            x.deleteBranch(1, 5, true);
            int there = x.pushDelete(1, 5);
            return x.branchAt(0, 5) == NONE && x.trackAt(1, 5) == NONE ? there : 9;
        });
        for (String method : new String[] {"rounds", "told", "sent", "doubles"}) {
            Edge.says(method, "in the latest transfer".substring(method.equals("rounds") ? 3 : 0));
        }
        VersionWorks x = more.make();
        x.fetch(1, 240);
        Due.is("sent", 4, () -> x.sent());
        Due.index("refused", () -> x.fetch(2, 240));
        Due.argument("refused", () -> x.fetch(1, 0));
        Due.is("one that was refused is none", 4, () -> x.sent());
        x.fetch(1, 240);
        Due.is("the latest sent nothing", 0, () -> x.sent() + x.told() + x.rounds() + x.doubles());
    }

    private static void packs() {
        Edge.Scene ends = Scenes::ends;
        Edge.is("reached", "Returns how many objects are reached", 0, Scenes::empty, x -> x.reached(0));
        Edge.is("collect", "Returns how many objects are not present any more by this", 0, ends, x -> x.collect(0, 0));
        Edge.is("expireReflog", "Returns how many there were", 5, ends, x -> x.expireReflog(0, 0));
        Edge.is("dangling", "Returns how many objects are dangling", 0, ends, x -> x.dangling(0));
        Edge.index("danglingAt", "place", ends, x -> x.danglingAt(0, 0));
        Edge.is("isPacked", "Tells whether an object of any kind is packed", 0, ends,
                x -> Edge.yes(x.isPacked(0, Scenes.TREE)));
        Due.is("packed", 1, () -> {
            VersionWorks x = ends.make();
            x.pack(0, 0, 0);
            return Edge.yes(x.isPacked(0, Scenes.TREE));
        });
        Edge.is("packBase", "NONE if it is not packed as a delta", NONE, ends, x -> x.packBase(0, Scenes.BLOB));
        Due.is("packed whole", NONE, () -> {
            VersionWorks x = ends.make();
            x.pack(0, 0, 8);
            return x.packBase(0, Scenes.BLOB);
        });
        Edge.is("deltaCost", "also the same one", 5, ends, x -> x.deltaCost(0, Scenes.BLOB, Scenes.BLOB));
        Edge.Scene none = () -> {
            VersionWorks x = Scenes.empty();
            x.write(0, 0, 0);
            x.add(0, 0);
            x.write(0, 1, 12);
            x.add(0, 1);
            return x;
        };
        Due.is("no lines out of no lines", 3, () -> none.make().deltaCost(0, 0, 0));
        Due.is("no lines out of some", 3, () -> none.make().deltaCost(0, 1, 0));
        Due.is("some out of none: two lines, one run", 6, () -> none.make().deltaCost(0, 0, 1));
        Edge.index("packedLine", "it has no such line", none, x -> x.packedLine(0, 0, 0));
        Edge.index("packedLine", "it has no such line", none, x -> x.packedLine(0, 1, 2));
        Due.is("of one that is not a delta, from the blob", 2, () -> none.make().packedLine(0, 1, 1));
        Edge.is("packSize", "Returns what all objects that are present cost, together", 2 + 4, none, x -> x.packSize(0));
    }

    private static void searches() {
        Edge.Scene searching = Scenes::searching;
        Edge.says("bisectGood", "nothing need be left of its ancestors");
        Due.is("an ancestor of the good one", 6, () -> searching.make().bisectGood(0, ROOT));
        Due.is("one beside", 6, () -> searching.make().bisectGood(0, SIDE));
        Due.is("the one ahead of the bad one", 1, () -> {
            VersionWorks x = searching.make();
            return x.bisectGood(0, x.parent(0, x.head(0), 0));
        });
        Edge.is("bisectSkip", "Returns how many of those left are skipped (the bad commit, too, if it was)", 1, searching,
                x -> x.bisectSkip(0, x.head(0)));
        Edge.is("bisectSkip", "It is still left", 6, searching, x -> x.bisectSkip(0, TOP) == 1 ? x.left(0) : 9);
        Due.is("what is skipped and not left does not count", 1, () -> {
            VersionWorks x = searching.make();
            int next = x.leftAt(0, 4);
            x.bisectSkip(0, TOP);
            x.bisectGood(0, TOP);
            return x.bisectSkip(0, next);
        });
        Edge.is("bisectEnd", "Returns how many commits were left", 6, searching, x -> x.bisectEnd(0));
        Edge.is("left", "NONE if no bisection is in progress", NONE, Scenes::ends, x -> x.left(0));
        Edge.says("leftAt", "(without a bisection there is none)");
        Edge.index("leftAt", "the list has no such place (without a bisection there is none)", Scenes::ends,
                x -> x.leftAt(0, 0));
        Edge.index("leftAt", "the list has no such place", searching, x -> x.leftAt(0, 6));
        Edge.index("leftAt", "the list has no such place (without a bisection there is none)", () -> {
            VersionWorks x = searching.make();
            x.bisectEnd(0);
            return x;
        }, x -> x.leftAt(0, 0));
        Due.is("the last one", TOP, () -> searching.make().leftAt(0, 5));
        Edge.Scene found = () -> {
            VersionWorks x = searching.make();
            x.bisectBad(0, TOP);
            return x;
        };
        Edge.is("nextTest", "NONE if there is none", NONE, found, x -> x.nextTest(0));
        Edge.is("culprit", "NONE if it is not known", NONE, searching, x -> x.culprit(0));
        Due.is("it is known", TOP, () -> found.make().culprit(0));
        Due.is("it is known, also if it is skipped", TOP, () -> {
            VersionWorks x = found.make();
            x.bisectSkip(0, TOP);
            return x.culprit(0);
        });
        Edge.is("tests", "Returns how many tests a search makes at the most, however they come out", 3, searching,
                x -> x.tests(0));
        Due.is("none", 0, () -> found.make().tests(0));
        Due.is("none for it", 0, () -> found.make().testsFor(0, TOP));
    }

    private static void stashes() {
        Edge.Scene ends = Scenes::ends;
        Edge.is("stashPush", "NONE if nothing was done", NONE, ends, x -> x.stashPush(0, 0, 0));
        String nothing = "Nothing is done, if the index tells the head snapshot, and at each path that is tracked the file "
                + "is as the index";
        Edge.says("stashPush", nothing);
        VersionWorks x = ends.make();
        String before = Whole.of(x);
        x.stashPush(0, 0, 0);
        Due.same("nothing is done", "", Whole.difference(before, Whole.of(x)));
        Due.yes("the index does not tell it", ends.make().stashPush(0, 0, 0) == NONE && something(y -> y.add(0, 11)));
        Due.yes("a tracked file differs", something(y -> y.deleteLine(0, 0, 0)));
        Due.yes("a tracked file is not there", something(y -> y.removeFile(0, 0)));
        Due.yes("the index differs, the file does not", something(y -> {
            y.write(0, 0, 5);
            y.add(0, 0);
            y.write(0, 0, 123459);
            return 0;
        }));
        Edge.is("stashDrop", "its commits stay, till they are collected", 2, ends, y -> y.kind(0, y.stashDrop(0, 0)));
        Edge.is("stashes", "Returns how many stashes there are", 2, ends, y -> y.stashes(0));
        Edge.index("stashDrop", "no such repository or stash", ends, y -> y.stashDrop(0, 2));
        Edge.index("stashAt", "no such repository or stash", Scenes::empty, y -> y.stashAt(0, 0));
        Edge.is("stashPop", "and drops it, if there was no conflict", 1, ends,
                y -> Edge.yes(y.stashPop(0, 0, false)) == 1 ? y.stashes(0) : 9);
        Due.is("with a conflict it stays", 2, () -> {
            VersionWorks y = ends.make();
            Scenes.commit(y, 0, 7, 66, 1);
            return y.stashPop(0, 0, false) ? 9 : y.stashes(0);
        });
        Edge.is("stashApply", "Applies a stash, and keeps it", 2, ends,
                y -> Edge.yes(y.stashApply(0, 0, false)) == 1 ? y.stashes(0) : 9);
        Edge.says("stashApply", "0 for the newest one");
        Due.is("the newest", 9, () -> {
            VersionWorks y = ends.make();
            y.stashApply(0, 0, false);
            return y.fileLine(0, 7, 1);
        });
        Due.is("the oldest", 8, () -> {
            VersionWorks y = ends.make();
            y.stashPop(0, 1, false);
            return y.fileLine(0, 7, 1);
        });
    }

    private static boolean something(Edge.Act act) {
        VersionWorks x = Scenes.ends();
        act.on(x);
        return x.stashPush(0, 0, 0) != NONE && x.stashes(0) == 3;
    }

    private static void rehearsals() {
        Edge.is("rehearse", "Returns how many calls were not left out", 1, Scenes::empty, x -> x.rehearse(0, 0, 1));
        Edge.says("isSound", "`part`: 1 to 11; 0 for the whole");
        Edge.Scene[] scenes = {Scenes::empty, Scenes::ends, Scenes::bare, Scenes::unborn, Scenes::stopped, Scenes::solved,
            Scenes::clashed, Scenes::rebasing, Scenes::picking, Scenes::reverting, Scenes::searching,
            () -> Scenes.full(Scenes::ends, 0, 0)};
        for (Edge.Scene scene : scenes) {
            VersionWorks x = scene.make();
            for (int part = 0; part <= 11; part++) {
                int p = part;
                Due.is("sound", 1, () -> Edge.yes(x.isSound(0, p)));
                Due.is("sound", 1, () -> Edge.yes(x.isSound(1, p)));
            }
        }
    }
}
