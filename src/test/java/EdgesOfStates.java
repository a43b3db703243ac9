/**
 * Each reason for which a method throws an IllegalStateException: the call is refused, changes nothing at all, and what
 * comes behind goes on as if it had not been made; and, just beside the reason, it is not refused.
 */
final class EdgesOfStates {
    private static final int NONE = VersionWorks.NONE;
    private static final int ROOT = Scenes.ROOT;
    private static final int TOP = Scenes.TOP;
    private static final int SIDE = Scenes.SIDE;

    public static void main(String[] args) {
        files();
        index();
        commits();
        refs();
        branches();
        switches();
        resetsAndTags();
        texts();
        merges();
        picks();
        rebases();
        operations();
        transfers();
        searches();
        stashes();
        for (String method : Doc.PARAMETERS.keySet()) {
            Edge.allQuoted(method, Due.STATE);
        }
        Edge.end("EdgesOfStates");
    }

    private static void isAllowed(String what, Edge.Scene scene, Edge.Act act) {
        String got = Due.told(() -> act.on(scene.make()));
        Due.yes(what + " is not refused, but: " + got, !got.endsWith("Exception"));
    }

    private static VersionWorks changed(VersionWorks x) {
        x.write(0, 0, 5);
        x.add(0, 0);
        return x;
    }

    private static void files() {
        Edge.state("insertLine", "there is no file at the path", Scenes::ends, x -> x.insertLine(0, 1, 0, 1));
        Edge.Scene sixty = () -> {
            VersionWorks x = Scenes.ends();
            for (int k = 6; k < 60; k++) {
                x.insertLine(0, 0, k, 1);
            }
            return x;
        };
        Edge.state("insertLine", "it has 60 lines", sixty, x -> x.insertLine(0, 0, 60, 1));
        Edge.state("insertLine", "it has 60 lines", sixty, x -> x.insertLine(0, 0, 0, 1));
        isAllowed("the 60th line", () -> {
            VersionWorks x = sixty.make();
            x.deleteLine(0, 0, 0);
            return x;
        }, x -> x.insertLine(0, 0, 59, 1));
        isAllowed("a line of a file without lines", () -> {
            VersionWorks x = Scenes.empty();
            x.write(0, 1, 0);
            return x;
        }, x -> x.insertLine(0, 1, 0, 1));
        Edge.state("removeFile", "there is no file", Scenes::ends, x -> x.removeFile(0, 1));
        isAllowed("to remove a file without lines", () -> {
            VersionWorks x = Scenes.empty();
            x.write(0, 1, 0);
            return x;
        }, x -> x.removeFile(0, 1));
        Edge.state("moveFile", "there is no file at the first path", Scenes::ends, x -> x.moveFile(0, 1, 2));
        Edge.state("moveFile", "there is one at the second", Scenes::ends, x -> x.moveFile(0, 0, 15));
        Edge.state("moveFile", "so also if the two are the same", Scenes::ends, x -> x.moveFile(0, 0, 0));
        Edge.state("moveFile", "there is one at the second", () -> {
            VersionWorks x = Scenes.ends();
            x.write(0, 1, 0);
            return x;
        }, x -> x.moveFile(0, 0, 1));
    }

    private static void index() {
        Edge.state("add", "there is no file, and the path is not tracked", Scenes::ends, x -> x.add(0, 1));
        isAllowed("no file, but tracked", () -> {
            VersionWorks x = Scenes.ends();
            x.removeFile(0, 0);
            return x;
        }, x -> x.add(0, 0));
        isAllowed("no file, but a conflict", () -> {
            VersionWorks x = Scenes.stopped();
            x.removeFile(0, 0);
            return x;
        }, x -> x.add(0, 0));
        isAllowed("a file, but not tracked", Scenes::ends, x -> x.add(0, 11));
        Edge.room("add", 0, () -> {
            VersionWorks x = Scenes.ends();
            x.write(0, 1, 88888);
            return x;
        }, x -> x.add(0, 1));
        isAllowed("add of lines that are present, without room", () -> {
            VersionWorks x = Scenes.full(Scenes::ends, 0, 0);
            x.write(0, 1, 12345);
            return x;
        }, x -> x.add(0, 1));
        isAllowed("add of a path that goes, without room", () -> {
            VersionWorks x = Scenes.full(Scenes::ends, 0, 0);
            x.removeFile(0, 0);
            return x;
        }, x -> x.add(0, 0));
        Edge.room("addAll", 0, () -> {
            VersionWorks x = Scenes.ends();
            x.write(0, 1, 88888);
            x.write(0, 2, 99999);
            x.write(0, 3, 77777);
            return x;
        }, x -> x.addAll(0));
        isAllowed("addAll of what is present, without room", () -> {
            VersionWorks x = Scenes.ends();
            x.add(0, 11);
            Scenes.fill(x, 0, 0);
            return x;
        }, x -> x.addAll(0));
        Edge.state("restore", "the index has no entry there, but nothing", Scenes::ends, x -> x.restore(0, 11));
        Edge.state("restore", "or a conflict", Scenes::stopped, x -> x.restore(0, 0));
    }

    private static void commits() {
        Edge.Scene solved = Scenes::solved;
        Edge.state("commit", "busy", solved, x -> x.commit(0, 0, 0));
        Edge.state("commit", "busy", Scenes::rebasing, x -> x.commit(0, 0, 0));
        Edge.state("commit", "the index has a conflict", () -> changed(Scenes.clashed()), x -> x.commit(0, 0, 0));
        Edge.state("commit", "the index tells the head snapshot", Scenes::ends, x -> x.commit(0, 0, 0));
        Edge.state("commit", "the index tells the head snapshot", Scenes::empty, x -> x.commit(0, 0, 0));
        Edge.state("commit", "the index tells the head snapshot", () -> {
            VersionWorks x = changed(Scenes.ends());
            x.unstage(0, 0);
            return x;
        }, x -> x.commit(0, 0, 0));
        isAllowed("a first commit", () -> changed(Scenes.empty()), x -> x.commit(0, 0, 0));
        Edge.room("commit", 0, () -> changed(Scenes.ends()), x -> x.commit(0, 0, 0));
        Edge.room("commit", 0, () -> changed(Scenes.empty()), x -> x.commit(0, 0, 0));
        isAllowed("a commit that is present, without room", () -> {
            VersionWorks x = changed(Scenes.ends());
            x.commit(0, 5, 5);
            x.reset(0, TOP, 0);
            Scenes.fill(x, 0, 0);
            return x;
        }, x -> x.commit(0, 5, 5));
        Edge.state("amend", "busy", solved, x -> x.amend(0, 0, 0));
        Edge.state("amend", "there is no head commit", Scenes::unborn, x -> x.amend(0, 0, 0));
        Edge.state("amend", "there is no head commit", Scenes::empty, x -> x.amend(0, 0, 0));
        Edge.state("amend", "the index has a conflict", Scenes::clashed, x -> x.amend(0, 0, 0));
        Edge.room("amend", 0, Scenes::ends, x -> x.amend(0, 0, 0));
        Edge.room("amend", 0, () -> changed(Scenes.ends()), x -> x.amend(0, 0, 0));
        isAllowed("amend to the commit itself, without room", () -> Scenes.full(Scenes::ends, 0, 0),
                x -> x.amend(0, 9, 99));
        Edge.Scene late = () -> {
            VersionWorks x = Scenes.ends();
            for (int k = 0; k < 10; k++) {
                x.tick(0, 999);
            }
            return x;
        };
        Edge.state("tick", "the clock would be above 9999", late, x -> x.tick(0, 10));
        Edge.state("tick", "the clock would be above 9999", late, x -> x.tick(0, 999));
        Due.is("the last time", 9999, () -> late.make().tick(0, 9));
        isAllowed("the other clock", late, x -> x.tick(1, 999));
    }

    private static void refs() {
        Edge.state("branch", "the branch is there", Scenes::ends, x -> x.branch(0, 5, ROOT));
        Edge.state("branch", "HEAD is on it", Scenes::unborn, x -> x.branch(0, 1, ROOT));
        Edge.state("branch", "HEAD is on it", Scenes::ends, x -> x.branch(0, 2, ROOT));
        isAllowed("a branch that is not there", Scenes::ends, x -> x.branch(0, 1, ROOT));
        Edge.state("moveBranch", "the branch is not there", Scenes::ends, x -> x.moveBranch(0, 1, ROOT));
        Edge.state("moveBranch", "HEAD holds it", Scenes::ends, x -> x.moveBranch(0, 2, ROOT));
        Edge.state("moveBranch", "HEAD holds it", Scenes::rebasing, x -> x.moveBranch(0, 3, ROOT));
        isAllowed("what HEAD held", () -> {
            VersionWorks x = Scenes.ends();
            x.detach(0, TOP);
            return x;
        }, x -> x.moveBranch(0, 2, ROOT));
        isAllowed("the branch behind a rebase", () -> {
            VersionWorks x = Scenes.rebasing();
            x.abort(0);
            x.switchTo(0, 2);
            return x;
        }, x -> x.moveBranch(0, 3, ROOT));
        isAllowed("the branch of a detached rebase", () -> {
            VersionWorks x = Scenes.ends();
            x.detach(0, SIDE);
            x.rebase(0, TOP, TOP, 0);
            return x;
        }, x -> x.moveBranch(0, 3, ROOT));
        Edge.state("deleteBranch", "the branch is not there", Scenes::ends, x -> x.deleteBranch(0, 1, true));
        Edge.state("deleteBranch", "the branch is not there", Scenes::unborn, x -> x.deleteBranch(0, 1, true));
        Edge.state("deleteBranch", "HEAD holds it", Scenes::ends, x -> x.deleteBranch(0, 2, true));
        Edge.state("deleteBranch", "HEAD holds it", Scenes::rebasing, x -> x.deleteBranch(0, 3, true));
        String unforced = "forced is false, and there is no head commit of which its commit is an ancestor";
        Edge.state("deleteBranch", unforced, Scenes::ends, x -> x.deleteBranch(0, 3, false));
        Edge.state("deleteBranch", unforced, Scenes::unborn, x -> x.deleteBranch(0, 0, false));
        isAllowed("a branch at the head commit itself", Scenes::ends, x -> x.deleteBranch(0, 5, false));
        isAllowed("a branch at an ancestor", Scenes::ends, x -> x.deleteBranch(0, 0, false));
        isAllowed("forced", Scenes::ends, x -> x.deleteBranch(0, 3, true));
        isAllowed("forced, without a head commit", Scenes::unborn, x -> x.deleteBranch(0, 0, true));
        Edge.state("deleteTag", "the tag is not there", Scenes::ends, x -> x.deleteTag(0, 1));
    }

    private static void branches() {
        Edge.state("renameBranch", "the first branch is not there", Scenes::ends, x -> x.renameBranch(0, 1, 4));
        Edge.state("renameBranch", "the first branch is not there", Scenes::unborn, x -> x.renameBranch(0, 1, 4));
        Edge.state("renameBranch", "the second one is", Scenes::ends, x -> x.renameBranch(0, 0, 5));
        Edge.state("renameBranch", "also if the two are the same", Scenes::ends, x -> x.renameBranch(0, 5, 5));
        Edge.state("renameBranch", "also if the two are the same", Scenes::ends, x -> x.renameBranch(0, 2, 2));
        Edge.state("renameBranch", "HEAD is on the second one", Scenes::unborn, x -> x.renameBranch(0, 0, 1));
        String began = "a rebase is in progress that began on one of them";
        Edge.state("renameBranch", began, Scenes::rebasing, x -> x.renameBranch(0, 3, 4));
        isAllowed("another branch in a rebase", Scenes::rebasing, x -> x.renameBranch(0, 5, 4));
        isAllowed("in a detached rebase", () -> {
            VersionWorks x = Scenes.ends();
            x.detach(0, SIDE);
            x.rebase(0, TOP, TOP, 0);
            return x;
        }, x -> x.renameBranch(0, 3, 4));
        isAllowed("the branch of HEAD", Scenes::ends, x -> x.renameBranch(0, 2, 4));
        isAllowed("the branch of HEAD in a merge", Scenes::stopped, x -> x.renameBranch(0, 2, 4));
        Edge.state("startBranch", "busy", Scenes::stopped, x -> x.startBranch(0, 4));
        Edge.state("startBranch", "busy", Scenes::solved, x -> x.startBranch(0, 4));
        Edge.state("startBranch", "the branch is there", Scenes::ends, x -> x.startBranch(0, 5));
        Edge.state("startBranch", "the branch is there", Scenes::ends, x -> x.startBranch(0, 2));
        Edge.state("startBranch", "the index has a conflict", Scenes::clashed, x -> x.startBranch(0, 4));
        isAllowed("the unborn branch itself", Scenes::unborn, x -> x.startBranch(0, 1));
    }

    private static void switches() {
        Edge.state("switchTo", "busy", Scenes::solved, x -> x.switchTo(0, 5));
        Edge.state("switchTo", "the branch is not there", Scenes::ends, x -> x.switchTo(0, 1));
        Edge.state("switchTo", "the branch is not there", Scenes::unborn, x -> x.switchTo(0, 1));
        Edge.state("switchTo", "the index has a conflict", Scenes::clashed, x -> x.switchTo(0, 2));
        String carried = "the index and the files cannot be carried";
        Edge.state("switchTo", carried, () -> {
            VersionWorks x = Scenes.ends();
            x.write(0, 8, 5);
            return x;
        }, x -> x.switchTo(0, 3));
        Edge.state("switchTo", carried, () -> changed(Scenes.ends()), x -> x.switchTo(0, 3));
        isAllowed("a path that both have alike", () -> {
            VersionWorks x = Scenes.ends();
            x.write(0, 7, 5);
            x.add(0, 7);
            return x;
        }, x -> x.switchTo(0, 5));
        Edge.state("detach", "busy", Scenes::solved, x -> x.detach(0, TOP));
        Edge.state("detach", "the index has a conflict", Scenes::clashed, x -> x.detach(0, TOP));
        Edge.state("detach", carried, () -> {
            VersionWorks x = Scenes.ends();
            x.write(0, 8, 5);
            return x;
        }, x -> x.detach(0, SIDE));
        Edge.state("detach", carried, () -> {
            VersionWorks x = Scenes.ends();
            x.removeFile(0, 0);
            return x;
        }, x -> x.detach(0, SIDE));
        isAllowed("detach where HEAD is, whatever the files are", () -> changed(Scenes.ends()), x -> x.detach(0, TOP));
    }

    private static void resetsAndTags() {
        for (int how = 0; how < 3; how++) {
            int h = how;
            Edge.state("reset", "busy", Scenes::solved, x -> x.reset(0, TOP, h));
            Edge.state("reset", "busy", Scenes::rebasing, x -> x.reset(0, TOP, h));
        }
        Edge.state("reset", "how is 0 and the index has a conflict", Scenes::clashed, x -> x.reset(0, TOP, 0));
        isAllowed("a mixed reset with a conflict", Scenes::clashed, x -> x.reset(0, TOP, 1));
        isAllowed("a hard reset with a conflict", Scenes::clashed, x -> x.reset(0, TOP, 2));
        isAllowed("a hard reset with files that differ", () -> changed(Scenes.ends()), x -> x.reset(0, SIDE, 2));
        isAllowed("a reset of an unborn branch", Scenes::unborn, x -> x.reset(0, SIDE, 0));
        Edge.state("tag", "the tag is there", Scenes::ends, x -> x.tag(0, 5, ROOT));
        Edge.state("annotate", "the tag is there", Scenes::ends, x -> x.annotate(0, 5, ROOT, 5));
        Edge.state("annotate", "the tag is there", () -> Scenes.full(Scenes::ends, 0, 0), x -> x.annotate(0, 0, TOP, 5));
        Edge.room("annotate", 0, Scenes::bare, x -> x.annotate(0, 0, SIDE, 7));
        isAllowed("a tag object that is present, without room", () -> Scenes.full(Scenes::ends, 0, 0),
                x -> x.annotate(0, 1, TOP, 5));
        isAllowed("a tag at a commit, without room", () -> Scenes.full(Scenes::ends, 0, 0), x -> x.tag(0, 1, TOP));
    }

    private static void texts() {
        Edge.state("type", "it has 60", () -> Scenes.typed("H".repeat(60)), x -> x.type('H'));
        Due.is("the 60th character", 60, () -> Scenes.typed("H".repeat(59)).type('!'));
        for (String text : new String[] {"", "B", "B0.", "B0..", "X", "B0..B2..", "H@"}) {
            Edge.state("resolve", "the text has a fault", () -> Scenes.typed(text), x -> x.resolve(0));
            Edge.state("list", "the text has a fault", () -> Scenes.typed(text), x -> x.list(0));
            Edge.state("listed", "the text has a fault", () -> Scenes.typed(text), x -> x.listed(0, 0));
        }
        Edge.state("resolve", "has two revisions", () -> Scenes.typed("B0..B2"), x -> x.resolve(0));
        Edge.state("resolve", "has two revisions", () -> Scenes.typed("B0...B0"), x -> x.resolve(0));
        for (String text : new String[] {"B1", "T1", "R1", "H@5", "H~2", "H^2", "B1~0", "B0^"}) {
            Edge.state("resolve", "names none", () -> Scenes.typed(text), x -> x.resolve(0));
            Edge.state("list", "a revision names none", () -> Scenes.typed(text), x -> x.list(0));
            Edge.state("list", "a revision names none", () -> Scenes.typed("H.." + text), x -> x.list(0));
            Edge.state("list", "a revision names none", () -> Scenes.typed(text + "...H"), x -> x.list(0));
            Edge.state("listed", "a revision names none", () -> Scenes.typed(text + "..H"), x -> x.listed(0, 0));
        }
        Edge.state("resolve", "names none", () -> Scenes.typed(Scenes.unborn(), "H"), x -> x.resolve(0));
        Due.is("the last entry", 5, () -> Scenes.ends().reflog(0));
        isAllowed("the last entry of the reflog", () -> Scenes.typed("H@4"), x -> x.resolve(0));
        isAllowed("the oldest ancestor", () -> Scenes.typed("H~1"), x -> x.resolve(0));
        Due.is("a list may be empty", 0, () -> Scenes.typed("H..H").list(0));
        Due.is("a list may be empty", 0, () -> Scenes.typed("H...H").list(0));
    }

    private static void merges() {
        Edge.state("merge", "busy", Scenes::solved, x -> x.merge(0, SIDE, 0, 0, 0, 0));
        Edge.state("merge", "busy", Scenes::solved, x -> x.merge(0, ROOT, 0, 0, 0, 0));
        Edge.state("merge", "there is no head commit", Scenes::unborn, x -> x.merge(0, ROOT, 0, 0, 0, 0));
        Edge.Scene back = () -> {
            VersionWorks x = Scenes.ends();
            x.switchTo(0, 0);
            return x;
        };
        Edge.state("merge", "a fast-forward cannot be carried", () -> changed(back.make()),
                x -> x.merge(0, TOP, 0, 0, 0, 0));
        Edge.state("merge", "a fast-forward cannot be carried", () -> {
            VersionWorks x = back.make();
            x.write(0, 7, 77);
            return x;
        }, x -> x.merge(0, TOP, 2, 0, 0, 0));
        isAllowed("a fast-forward, also if the index does not tell the head snapshot", () -> {
            VersionWorks x = back.make();
            x.add(0, 11);
            return x;
        }, x -> x.merge(0, TOP, 0, 0, 0, 0));
        Edge.state("merge", "mode is 2 and a merge would be made", Scenes::ends, x -> x.merge(0, SIDE, 2, 0, 0, 0));
        isAllowed("mode 2, a fast-forward", back, x -> x.merge(0, TOP, 2, 0, 0, 0));
        isAllowed("mode 2, nothing to do", Scenes::ends, x -> x.merge(0, ROOT, 2, 0, 0, 0));
        isAllowed("nothing to do, with a conflict in the index", Scenes::clashed, x -> x.merge(0, ROOT, 1, 0, 0, 0));
        String untold = "the index does not tell the head snapshot, ahead of a merge";
        Edge.state("merge", untold, () -> {
            VersionWorks x = Scenes.ends();
            x.add(0, 11);
            return x;
        }, x -> x.merge(0, SIDE, 0, 0, 0, 0));
        Edge.state("merge", untold, Scenes::clashed, x -> x.merge(0, SIDE, 0, 0, 0, 0));
        Edge.state("merge", untold, () -> {
            VersionWorks x = back.make();
            x.add(0, 11);
            return x;
        }, x -> x.merge(0, TOP, 1, 0, 0, 0));
        Edge.state("merge", "a file is in the way", () -> {
            VersionWorks x = Scenes.ends();
            x.write(0, 0, 5);
            return x;
        }, x -> x.merge(0, SIDE, 0, 0, 0, 0));
        Edge.state("merge", "a file is in the way", () -> {
            VersionWorks x = Scenes.ends();
            x.write(0, 8, 5);
            return x;
        }, x -> x.merge(0, SIDE, 0, 1, 0, 0));
        isAllowed("a file that differs at a path that is not touched", () -> {
            VersionWorks x = Scenes.ends();
            x.write(0, 7, 5);
            return x;
        }, x -> x.merge(0, SIDE, 0, 0, 0, 0));
        Edge.room("merge", 0, Scenes::ends, x -> x.merge(0, SIDE, 0, 2, 0, 0));
        isAllowed("a fast-forward, without room", () -> Scenes.full(back, 0, 0), x -> x.merge(0, TOP, 0, 0, 0, 0));
        isAllowed("a merge that stops and stores what is present, without room",
                () -> Scenes.full(Scenes::ends, 0, 0), x -> x.merge(0, SIDE, 0, 0, 0, 0));
    }

    private static void picks() {
        Edge.Scene merged = () -> {
            VersionWorks x = Scenes.ends();
            x.merge(0, SIDE, 0, 2, 0, 0);
            x.branch(0, 1, x.head(0));
            x.reset(0, TOP, 2);
            return x;
        };
        int two = merged.make().branchAt(0, 1);
        Edge.state("cherryPick", "busy", Scenes::solved, x -> x.cherryPick(0, SIDE, 0, 0));
        Edge.state("revert", "busy", Scenes::solved, x -> x.revert(0, TOP, 0, 0, 0, 0));
        Edge.state("cherryPick", "there is no head commit", Scenes::unborn, x -> x.cherryPick(0, SIDE, 0, 0));
        Edge.state("revert", "there is no head commit", Scenes::unborn, x -> x.revert(0, SIDE, 0, 0, 0, 0));
        Edge.state("cherryPick", "mainline is 0 and the commit has two parents", merged, x -> x.cherryPick(0, two, 0, 0));
        Edge.state("revert", "mainline is 0 and the commit has two parents", merged,
                x -> x.revert(0, two, 0, 0, 0, 0));
        for (int mainline = 1; mainline <= 2; mainline++) {
            int m = mainline;
            Edge.state("cherryPick", "or is not 0 and it has not", merged, x -> x.cherryPick(0, SIDE, m, 0));
            Edge.state("cherryPick", "or is not 0 and it has not", merged, x -> x.cherryPick(0, ROOT, m, 0));
            Edge.state("revert", "or is not 0 and it has not", merged, x -> x.revert(0, SIDE, m, 0, 0, 0));
            Edge.state("revert", "or is not 0 and it has not", merged, x -> x.revert(0, ROOT, m, 0, 0, 0));
            isAllowed("pick of a merge by a mainline", merged, x -> x.cherryPick(0, two, m, 0));
            isAllowed("revert of a merge by a mainline", merged, x -> x.revert(0, two, m, 0, 0, 0));
        }
        isAllowed("pick of a commit without a parent", merged, x -> x.cherryPick(0, ROOT, 0, 0));
        Edge.Scene added = () -> {
            VersionWorks x = Scenes.ends();
            x.add(0, 11);
            return x;
        };
        Edge.state("cherryPick", "the index does not tell the head snapshot", added, x -> x.cherryPick(0, SIDE, 0, 0));
        Edge.state("cherryPick", "the index does not tell the head snapshot", Scenes::clashed,
                x -> x.cherryPick(0, SIDE, 0, 0));
        Edge.state("revert", "the index does not tell the head snapshot", added, x -> x.revert(0, TOP, 0, 0, 0, 0));
        // Also if no path would be touched: TOP is picked onto itself.
        Edge.state("cherryPick", "the index does not tell the head snapshot", added, x -> x.cherryPick(0, TOP, 0, 0));
        Edge.Scene inTheWay = () -> {
            VersionWorks x = Scenes.ends();
            x.write(0, 15, 5);
            return x;
        };
        Edge.state("cherryPick", "a file is in the way", inTheWay, x -> x.cherryPick(0, SIDE, 0, 0));
        Edge.state("revert", "a file is in the way", inTheWay, x -> x.revert(0, TOP, 0, 0, 0, 0));
        isAllowed("no path is touched, so no file is in the way", inTheWay, x -> x.cherryPick(0, TOP, 0, 0));
        Edge.room("cherryPick", 0, Scenes::ends, x -> x.cherryPick(0, SIDE, 0, 2));
        Edge.room("revert", 0, () -> {
            VersionWorks x = Scenes.ends();
            Scenes.commit(x, 0, 1, 1, 1);
            return x;
        }, x -> x.revert(0, TOP, 0, 0, 0, 0));
        isAllowed("a pick that touches nothing, without room", () -> Scenes.full(Scenes::ends, 0, 0),
                x -> x.cherryPick(0, TOP, 0, 0));
    }

    /** Branch 3 goes on from SIDE by two commits at path 8, which go well upon TOP by favour 2. */
    private static VersionWorks ready() {
        VersionWorks x = Scenes.ends();
        x.switchTo(0, 3);
        Scenes.commit(x, 0, 8, 55, 7);
        Scenes.commit(x, 0, 8, 555, 8);
        return x;
    }

    private static void rebases() {
        Edge.state("rebase", "busy", Scenes::solved, x -> x.rebase(0, SIDE, SIDE, 0));
        Edge.state("rebase", "there is no head commit", Scenes::unborn, x -> x.rebase(0, SIDE, SIDE, 0));
        Edge.state("rebase", "the index does not tell the head snapshot", () -> {
            VersionWorks x = ready();
            x.add(0, 11);
            return x;
        }, x -> x.rebase(0, TOP, TOP, 2));
        Edge.state("rebase", "the index does not tell the head snapshot", Scenes::clashed,
                x -> x.rebase(0, SIDE, SIDE, 2));
        String differs = "at a path that is tracked the file is not as the index";
        Edge.state("rebase", differs, () -> {
            VersionWorks x = ready();
            x.write(0, 0, 5);
            return x;
        }, x -> x.rebase(0, TOP, TOP, 2));
        Edge.state("rebase", differs, () -> {
            VersionWorks x = ready();
            x.removeFile(0, 8);
            return x;
        }, x -> x.rebase(0, x.head(0), x.head(0), 2));
        isAllowed("a file that is not tracked, at path 11", EdgesOfStates::ready, x -> x.rebase(0, TOP, TOP, 2));
        Edge.state("rebase", "something cannot be carried", () -> {
            VersionWorks x = ready();
            x.write(0, 7, 5);
            return x;
        }, x -> x.rebase(0, TOP, TOP, 2));
        // Back to ROOT, then forward again by the commits themselves: a step is carried over a file.
        Edge.state("rebase", "something cannot be carried", () -> {
            VersionWorks x = ready();
            Scenes.commit(x, 0, 1, 1, 1);
            x.removeFile(0, 1);
            x.add(0, 1);
            x.commit(0, 1, 2);
            x.write(0, 1, 5);
            return x;
        }, x -> x.rebase(0, ROOT, ROOT, 2));
        Edge.state("rebase", "is in the way", () -> {
            VersionWorks x = ready();
            Scenes.commit(x, 0, 1, 1, 1);
            x.removeFile(0, 1);
            x.add(0, 1);
            x.commit(0, 1, 2);
            x.write(0, 1, 5);
            return x;
        }, x -> x.rebase(0, TOP, TOP, 2));
        Edge.room("rebase", 0, EdgesOfStates::ready, x -> x.rebase(0, TOP, TOP, 2));
        isAllowed("a rebase that is carried, without room", () -> Scenes.full(EdgesOfStates::ready, 0, 0),
                x -> x.rebase(0, ROOT, ROOT, 0));
        isAllowed("a rebase with nothing to do, without room", () -> Scenes.full(EdgesOfStates::ready, 0, 0),
                x -> x.rebase(0, x.head(0), TOP, 0));
    }

    private static VersionWorks solvedRebase() {
        VersionWorks x = Scenes.rebasing();
        x.write(0, 0, 9);
        x.addAll(0);
        return x;
    }

    private static void operations() {
        Edge.state("proceed", "no operation is in progress", Scenes::ends, x -> x.proceed(0));
        Edge.state("proceed", "no operation is in progress", Scenes::empty, x -> x.proceed(0));
        Edge.Scene[] stopped = {Scenes::stopped, Scenes::picking, Scenes::reverting, Scenes::rebasing};
        for (Edge.Scene scene : stopped) {
            Edge.state("proceed", "the index has a conflict", scene, x -> x.proceed(0));
            Edge.state("proceed", "the index has a conflict", () -> {
                VersionWorks x = scene.make();
                x.add(0, 15);
                return x;
            }, x -> x.proceed(0));
        }
        // SIDE's path 8 is added by the first step, and changed by the two behind it.
        Edge.state("proceed", "in a rebase something cannot be carried, or is in the way", () -> {
            VersionWorks x = solvedRebase();
            x.write(0, 8, 77);
            return x;
        }, x -> x.proceed(0));
        isAllowed("a merge with a file that differs", () -> {
            VersionWorks x = Scenes.solved();
            x.write(0, 8, 77);
            return x;
        }, x -> x.proceed(0));
        Edge.room("proceed", 0, EdgesOfStates::solvedRebase, x -> x.proceed(0));
        Edge.room("proceed", 0, Scenes::solved, x -> x.proceed(0));
        isAllowed("a pick without a commit, without room", () -> {
            VersionWorks x = Scenes.picking();
            x.unstage(0, 0);
            x.unstage(0, 15);
            x.unstage(0, 8);
            Scenes.fill(x, 0, 0);
            return x;
        }, x -> x.proceed(0));
        Edge.state("skip", "no rebase is in progress", Scenes::ends, x -> x.skip(0));
        Edge.state("skip", "no rebase is in progress", Scenes::stopped, x -> x.skip(0));
        Edge.state("skip", "no rebase is in progress", Scenes::picking, x -> x.skip(0));
        Edge.state("skip", "no rebase is in progress", Scenes::reverting, x -> x.skip(0));
        // Behind the step that stops: one that adds path 1, one that takes it away; a file that is not tracked is there.
        Edge.Scene adding = () -> {
            VersionWorks x = Scenes.ends();
            x.switchTo(0, 3);
            Scenes.commit(x, 0, 1, 1, 7);
            x.removeFile(0, 1);
            x.add(0, 1);
            x.commit(0, 1, 8);
            x.rebase(0, TOP, TOP, 0);
            return x;
        };
        isAllowed("skip", adding, x -> x.skip(0));
        Edge.state("skip", "something cannot be carried, or is in the way", () -> {
            VersionWorks x = adding.make();
            x.write(0, 1, 5);
            return x;
        }, x -> x.skip(0));
        Edge.room("skip", 0, adding, x -> x.skip(0));
        Edge.state("abort", "no operation is in progress", Scenes::ends, x -> x.abort(0));
        Edge.state("abort", "no operation is in progress", Scenes::clashed, x -> x.abort(0));
        Edge.state("takeStage", "the index has no conflict there", Scenes::stopped, x -> x.takeStage(0, 8, 0));
        Edge.state("takeStage", "the index has no conflict there", Scenes::stopped, x -> x.takeStage(0, 1, 0));
        Edge.state("mergeFile", "the index has no conflict there", Scenes::stopped, x -> x.mergeFile(0, 8, 0));
        Edge.state("mergeFile", "the index has no conflict there", Scenes::stopped, x -> x.mergeFile(0, 1, 0));
        isAllowed("takeStage without an operation", Scenes::clashed, x -> x.takeStage(0, 7, 0));
        isAllowed("mergeFile without an operation", Scenes::clashed, x -> x.mergeFile(0, 7, 0));
    }

    private static void transfers() {
        Edge.Scene more = () -> {
            VersionWorks x = Scenes.ends();
            Scenes.commit(x, 1, 7, 881, 1);
            Scenes.commit(x, 0, 7, 882, 1);
            return x;
        };
        String within = "no room in this repository for the objects that come within the limit";
        Edge.room("fetch", 0, more, x -> x.fetch(0, 240));
        Edge.state("fetch", within, () -> Scenes.full(more, 0, 3), x -> x.fetch(0, 240));
        Edge.state("fetch", within, () -> Scenes.full(more, 0, 3), x -> x.fetch(0, 4));
        Due.is("what comes within the limit has room", NONE, () -> Scenes.full(more, 0, 3).fetch(0, 3));
        Edge.state("fetch", within, () -> Scenes.full(more, 0, 2), x -> x.fetch(0, 3));
        isAllowed("a fetch of nothing, without room", () -> Scenes.full(Scenes::ends, 0, 0), x -> x.fetch(0, 240));
        isAllowed("the other one has room enough", () -> Scenes.full(more, 1, 0), x -> x.fetch(0, 240));

        Edge.state("push", "the branch is not there", Scenes::ends, x -> x.push(0, 1, 1, 1, 240));
        Edge.state("push", "the branch is not there", Scenes::unborn, x -> x.push(0, 1, 1, 1, 240));
        String asks = "something does not hold that such a push asks";
        Edge.state("push", asks, Scenes::ends, x -> x.push(0, 3, 5, 0, 240));
        Edge.state("push", asks, more, x -> x.push(0, 2, 2, 0, 240));
        Edge.state("push", asks, () -> {
            VersionWorks x = Scenes.ends();
            x.moveBranch(1, 5, SIDE);
            return x;
        }, x -> x.push(0, 2, 5, 2, 240));
        Edge.state("push", asks, () -> {
            VersionWorks x = Scenes.ends();
            x.deleteBranch(1, 5, true);
            return x;
        }, x -> x.push(0, 2, 5, 2, 240));
        Edge.state("push", asks, () -> {
            VersionWorks x = Scenes.ends();
            x.branch(1, 4, TOP);
            return x;
        }, x -> x.push(0, 2, 4, 2, 240));
        Edge.state("push", asks, Scenes::stopped, x -> x.push(0, 5, 2, 1, 240));
        Edge.state("push", asks, () -> {
            VersionWorks x = Scenes.ends();
            x.add(1, 11);
            return x;
        }, x -> x.push(0, 5, 2, 1, 240));
        Edge.state("push", asks, () -> {
            VersionWorks x = Scenes.ends();
            x.write(1, 0, 5);
            return x;
        }, x -> x.push(0, 3, 2, 1, 240));
        Edge.room("push", 0, 1, more, x -> x.push(0, 2, 1, 0, 240));
        String there = "no room in the other repository for the objects that come within the limit";
        Edge.state("push", there, () -> Scenes.full(more, 1, 3), x -> x.push(0, 2, 1, 0, 4));
        Due.is("what comes within the limit has room", NONE, () -> Scenes.full(more, 1, 3).push(0, 2, 1, 0, 3));
        isAllowed("a push without room here", () -> Scenes.full(more, 0, 0), x -> x.push(0, 2, 1, 0, 240));
        isAllowed("a push of what is there, without room", () -> Scenes.full(Scenes::ends, 1, 0),
                x -> x.push(0, 2, 1, 0, 240));

        String deletes = "something does not hold that this asks";
        Edge.state("pushDelete", deletes, Scenes::ends, x -> x.pushDelete(0, 1));
        Edge.state("pushDelete", deletes, Scenes::ends, x -> x.pushDelete(0, 2));
        Edge.state("pushDelete", deletes, Scenes::rebasing, x -> x.pushDelete(0, 3));
        Edge.state("pushDelete", deletes, () -> {
            VersionWorks x = Scenes.ends();
            x.moveBranch(1, 5, SIDE);
            return x;
        }, x -> x.pushDelete(0, 5));
        Edge.state("pushDelete", deletes, () -> {
            VersionWorks x = Scenes.ends();
            x.branch(1, 4, TOP);
            return x;
        }, x -> x.pushDelete(0, 4));
        Edge.state("pushDelete", deletes, () -> {
            VersionWorks x = Scenes.ends();
            x.deleteBranch(1, 5, true);
            return x;
        }, x -> x.pushDelete(0, 5));
        isAllowed("pushDelete", Scenes::ends, x -> x.pushDelete(0, 5));
    }

    private static void searches() {
        Edge.Scene searching = Scenes::searching;
        Edge.state("bisectStart", "a bisection is in progress", searching, x -> x.bisectStart(0, TOP, ROOT));
        Edge.state("bisectStart", "bad is an ancestor of good", Scenes::ends, x -> x.bisectStart(0, ROOT, TOP));
        Edge.state("bisectStart", "bad is an ancestor of good", Scenes::ends, x -> x.bisectStart(0, TOP, TOP));
        isAllowed("neither is an ancestor of the other", Scenes::ends, x -> x.bisectStart(0, TOP, SIDE));
        isAllowed("a second bisection", () -> {
            VersionWorks x = searching.make();
            x.bisectEnd(0);
            return x;
        }, x -> x.bisectStart(0, TOP, ROOT));
        String none = "no bisection is in progress";
        Edge.state("bisectGood", none, Scenes::ends, x -> x.bisectGood(0, ROOT));
        Edge.state("bisectGood", "the bad commit is an ancestor of the commit", searching,
                x -> x.bisectGood(0, x.head(0)));
        Edge.state("bisectGood", "the bad commit is an ancestor of the commit", () -> {
            VersionWorks x = searching.make();
            x.bisectBad(0, TOP);
            return x;
        }, x -> x.bisectGood(0, x.head(0)));
        isAllowed("an ancestor of the bad one", searching, x -> x.bisectGood(0, x.parent(0, x.head(0), 0)));
        isAllowed("one beside it", searching, x -> x.bisectGood(0, SIDE));
        isAllowed("a good one again", searching, x -> x.bisectGood(0, ROOT));
        String left = "the commit is not left";
        Edge.state("bisectBad", none, Scenes::ends, x -> x.bisectBad(0, TOP));
        Edge.state("bisectBad", left, searching, x -> x.bisectBad(0, ROOT));
        Edge.state("bisectBad", left, searching, x -> x.bisectBad(0, SIDE));
        isAllowed("the bad one again", searching, x -> x.bisectBad(0, x.head(0)));
        isAllowed("the oldest that is left", searching, x -> x.bisectBad(0, TOP));
        Edge.state("bisectSkip", none, Scenes::ends, x -> x.bisectSkip(0, TOP));
        Edge.state("bisectSkip", left, searching, x -> x.bisectSkip(0, ROOT));
        isAllowed("the bad one is left", searching, x -> x.bisectSkip(0, x.head(0)));
        Edge.state("bisectEnd", none, Scenes::ends, x -> x.bisectEnd(0));
        Edge.state("bisectEnd", none, () -> {
            VersionWorks x = searching.make();
            x.bisectEnd(0);
            return x;
        }, x -> x.bisectEnd(0));
        Edge.state("weight", none, Scenes::ends, x -> x.weight(0, TOP));
        Edge.state("weight", left, searching, x -> x.weight(0, ROOT));
        Edge.state("weight", left, searching, x -> x.weight(0, SIDE));
        Edge.state("nextTest", none, Scenes::ends, x -> x.nextTest(0));
        Edge.state("culprit", none, Scenes::ends, x -> x.culprit(0));
        Edge.state("tests", none, Scenes::ends, x -> x.tests(0));
        Edge.state("testsFor", none, Scenes::ends, x -> x.testsFor(0, TOP));
        Edge.state("testsFor", left, searching, x -> x.testsFor(0, ROOT));
        Edge.state("bisectStart", "a bisection is in progress", () -> {
            VersionWorks x = searching.make();
            x.bisectEnd(1);
            return x;
        }, x -> x.bisectStart(0, TOP, ROOT));
        isAllowed("a bisection of the other repository is none of this one", () -> {
            VersionWorks x = searching.make();
            x.bisectEnd(1);
            return x;
        }, x -> x.bisectStart(1, TOP, ROOT));
    }

    private static VersionWorks stashes(int count) {
        VersionWorks x = Scenes.ends();
        for (int k = x.stashes(0); k < count; k++) {
            x.write(0, 0, 1 + k);
            x.stashPush(0, 0, k);
        }
        x.write(0, 0, 8);
        return x;
    }

    private static void stashes() {
        Edge.state("stashPush", "busy", Scenes::solved, x -> x.stashPush(0, 0, 0));
        Edge.state("stashPush", "there is no head commit", Scenes::unborn, x -> x.stashPush(0, 0, 0));
        Edge.state("stashPush", "there is no head commit", Scenes::empty, x -> x.stashPush(0, 0, 0));
        Edge.state("stashPush", "the index has a conflict", Scenes::clashed, x -> x.stashPush(0, 0, 0));
        Edge.state("stashPush", "there are 6 stashes", () -> stashes(6), x -> x.stashPush(0, 0, 0));
        isAllowed("the sixth stash", () -> stashes(5), x -> x.stashPush(0, 0, 0));
        Due.is("nothing to do, with 6 stashes", NONE, () -> {
            VersionWorks x = stashes(6);
            x.restore(0, 0);
            return x.stashPush(0, 0, 0);
        });
        Edge.room("stashPush", 0, () -> stashes(2), x -> x.stashPush(0, 0, 0));
        isAllowed("nothing to do, without room", () -> Scenes.full(Scenes::ends, 0, 0), x -> x.stashPush(0, 0, 0));
        for (boolean pop : new boolean[] {false, true}) {
            String method = pop ? "stashPop" : "stashApply";
            for (boolean with : new boolean[] {false, true}) {
                Edge.Act act = x -> Edge.yes(pop ? x.stashPop(0, 0, with) : x.stashApply(0, 0, with));
                Edge.state(method, "busy", Scenes::solved, act);
                Edge.state(method, "the index has a conflict", Scenes::clashed, act);
                Edge.state(method, "a file is in the way", () -> {
                    VersionWorks x = Scenes.ends();
                    x.write(0, 7, 5);
                    return x;
                }, act);
                isAllowed("a file that differs where nothing is touched", () -> {
                    VersionWorks x = Scenes.ends();
                    x.write(0, 0, 5);
                    return x;
                }, act);
                // A stash that adds path 1, while the index has nothing there: the result is stored as a blob.
                Edge.Scene adding = () -> {
                    VersionWorks x = Scenes.ends();
                    x.write(0, 1, 3);
                    x.add(0, 1);
                    x.write(0, 1, 33);
                    x.stashPush(0, 0, 0);
                    x.write(0, 0, 1234599);
                    x.add(0, 0);
                    return x;
                };
                isAllowed("a stash whose blobs are present, without room", () -> Scenes.full(adding, 0, 0), act);
                // The index has changed the file at its end, the stash at its front: both together are a new blob.
                Edge.Scene both = () -> {
                    VersionWorks x = Scenes.ends();
                    x.write(0, 0, 9123459);
                    x.add(0, 0);
                    x.write(0, 1, 3);
                    x.add(0, 1);
                    x.stashPush(0, 0, 0);
                    x.expireReflog(0, 0);
                    x.write(0, 0, 1234598);
                    x.add(0, 0);
                    return x;
                };
                if (with) {
                    Edge.room(method, 0, both, act);
                } else {
                    isAllowed("the file has the result, which is not stored", () -> Scenes.full(both, 0, 0), act);
                }
                Edge.Scene clash = () -> {
                    VersionWorks x = Scenes.ends();
                    x.write(0, 0, 1);
                    x.add(0, 0);
                    x.write(0, 0, 123459);
                    x.stashPush(0, 0, 0);
                    x.write(0, 0, 2);
                    x.add(0, 0);
                    return x;
                };
                if (with) {
                    Edge.state(method, "with the index, the second merge has a conflict", clash, act);
                } else {
                    isAllowed("without the index there is no second merge", clash, act);
                }
            }
        }
    }
}
