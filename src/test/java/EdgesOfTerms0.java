import java.util.HashMap;
import java.util.HashSet;
import java.util.Map;
import java.util.Set;

/** What always holds, and the sentences of part 0 of the terms, that all parts share. */
final class EdgesOfTerms0 {
    private static final int NONE = VersionWorks.NONE;

    public static void main(String[] args) {
        closedAndWithoutDoubles();
        neverChanged();
        busyOnes();
        fetchesComeThrough();
        twentyTwo();
        collectsNothingReached();
        clocks();
        linesAndPaths();
        kindsOfObjects();
        holdTheSame();
        holdNearlyTheSame();
        numbersAndStamps();
        snapshots();
        numbersGivenEver();
        heads();
        reflogs();
        indexes();
        carries();
        carriesOverConflicts();
        forces();
        lists();
        listsOfSets();
        Edge.end("EdgesOfTerms0");
    }

    private static int commit(VersionWorks x, int r, int path, long digits, int message) {
        return Scenes.commit(x, r, path, digits, message);
    }

    // ---- what always holds

    private static String held(VersionWorks x, int r, int o) {
        StringBuilder out = new StringBuilder().append(x.kind(r, o));
        for (int k = 0; x.kind(r, o) == 0 && k < x.blobLines(r, o); k++) {
            out.append(" ").append(x.blobLine(r, o, k));
        }
        for (int part : parts(x, r, o)) {
            out.append(" ").append(part);
        }
        if (x.kind(r, o) == 2) {
            out.append(" by ").append(x.author(r, o));
        }
        if (x.kind(r, o) > 1) {
            out.append(" on ").append(x.date(r, o)).append(" says ").append(x.message(r, o));
        }
        return out.toString();
    }

    private static int[] parts(VersionWorks x, int r, int o) {
        switch (x.kind(r, o)) {
            case 1: return new int[] {x.entry(r, o, 0), x.entry(r, o, 1), x.entry(r, o, 2), x.entry(r, o, 3)};
            case 2: return new int[] {x.rootTree(r, o), x.parent(r, o, 0), x.parent(r, o, 1)};
            case 3: return new int[] {x.tagged(r, o)};
            default: return new int[0];
        }
    }

    private static void closedAndWithoutDoubles() {
        Edge.says("part all", "whatever an object that is present names is present, too, with a lower number, and no two "
                + "objects that are present hold the same");
        for (int seed = 0; seed < 40; seed++) {
            VersionWorks x = seed == 0 ? Scenes.ends() : new VersionWorks();
            for (int k = 0; k < 6; k++) {
                x.rehearse(k % 2, seed * 997 % 65536, 40);
            }
            x.expireReflog(0, 5);
            x.collect(0, 2);
            for (int r = 0; r < 2; r++) {
                Set<String> all = new HashSet<>();
                for (int o = 0; o < x.objects(r); o++) {
                    if (x.kind(r, o) == NONE) {
                        continue;
                    }
                    Due.yes("no two hold the same", all.add(held(x, r, o)));
                    for (int part : parts(x, r, o)) {
                        Due.yes("parts are present, with lower numbers", part == NONE || part < o && x.kind(r, part) != NONE);
                    }
                }
            }
        }
    }

    private static void neverChanged() {
        Edge.says("part 0", "An object is one of four kinds, and never changes");
        VersionWorks x = Scenes.ends();
        String[] before = new String[x.objects(0)];
        for (int o = 0; o < before.length; o++) {
            before[o] = held(x, 0, o);
        }
        for (int k = 0; k < 8; k++) {
            x.rehearse(0, 100 + k, 40);
            x.pack(0, k, 8 - k);
            x.fetch(1, 240);
        }
        for (int o = 0; o < before.length; o++) {
            Due.same("it holds what it held", before[o], held(x, 0, o));
        }
    }

    /** In a merge that stopped: what does not name "busy" in its clause is not refused. */
    private static void busyOnes() {
        Edge.says("part 0", "While one is in progress the repository is busy: the methods whose throws clause says \"busy\" throw then; "
                + "all others can be called.");
        Map<String, Edge.Act> others = new HashMap<>();
        others.put("write", x -> x.write(0, 7, 1));
        others.put("insertLine", x -> x.insertLine(0, 0, 0, 1));
        others.put("deleteLine", x -> x.deleteLine(0, 0, 0));
        others.put("removeFile", x -> x.removeFile(0, 0));
        others.put("moveFile", x -> x.moveFile(0, 0, 1));
        others.put("ignore", x -> Edge.yes(x.ignore(0, 0, true)));
        others.put("clean", x -> x.clean(0));
        others.put("add", x -> x.add(0, 0));
        others.put("addAll", x -> x.addAll(0));
        others.put("unstage", x -> x.unstage(0, 0));
        others.put("restore", x -> x.restore(0, 7));
        others.put("tick", x -> x.tick(0, 1));
        others.put("branch", x -> x.branch(0, 1, Scenes.TOP));
        others.put("moveBranch", x -> x.moveBranch(0, 0, Scenes.TOP));
        others.put("deleteBranch", x -> x.deleteBranch(0, 0, false));
        others.put("renameBranch", x -> x.renameBranch(0, 2, 1));
        others.put("tag", x -> x.tag(0, 1, Scenes.TOP));
        others.put("annotate", x -> x.annotate(0, 1, Scenes.TOP, 1));
        others.put("deleteTag", x -> x.deleteTag(0, 0));
        others.put("proceed", x -> x.addAll(0) >= 0 ? x.proceed(0) : 0);
        others.put("abort", x -> x.abort(0));
        others.put("takeStage", x -> x.takeStage(0, 0, 0));
        others.put("mergeFile", x -> x.mergeFile(0, 0, 0));
        others.put("fetch", x -> x.fetch(0, 240));
        others.put("push", x -> x.push(0, 2, 1, 0, 240));
        others.put("pushDelete", x -> x.pushDelete(0, 0));
        others.put("pruneTracks", x -> x.pruneTracks(0));
        others.put("collect", x -> x.collect(0, 0));
        others.put("expireReflog", x -> x.expireReflog(0, 0));
        others.put("pack", x -> x.pack(0, 8, 8));
        others.put("bisectStart", x -> x.bisectStart(0, Scenes.TOP, Scenes.ROOT));
        others.put("bisectEnd", x -> x.bisectStart(0, Scenes.TOP, Scenes.ROOT) + x.bisectEnd(0));
        others.put("stashDrop", x -> x.stashDrop(0, 0));
        others.put("rehearse", x -> x.rehearse(0, 1, 40));
        others.put("isSound", x -> Edge.yes(x.isSound(0, 0)));
        for (String method : others.keySet()) {
            Due.yes(method + " does not say busy", !Doc.clause(method, Due.STATE).contains("busy"));
            String got = Due.told(() -> others.get(method).on(Scenes.stopped()));
            Due.yes(method + " can be called, but: " + got, !got.endsWith("Exception"));
        }
        for (String method : Doc.PARAMETERS.keySet()) {
            if (Doc.clause(method, Due.STATE).contains("if busy")) {
                Due.yes(method + " throws in all operations", busyOne(method));
            }
        }
    }

    private static boolean busyOne(String method) {
        Map<String, Edge.Act> busy = new HashMap<>();
        busy.put("commit", x -> x.commit(0, 0, 0));
        busy.put("amend", x -> x.amend(0, 0, 0));
        busy.put("startBranch", x -> x.startBranch(0, 1));
        busy.put("switchTo", x -> x.switchTo(0, 5));
        busy.put("detach", x -> x.detach(0, x.head(0)));
        busy.put("reset", x -> x.reset(0, x.head(0), 2));
        busy.put("merge", x -> x.merge(0, x.head(0), 0, 0, 0, 0));
        busy.put("cherryPick", x -> x.cherryPick(0, Scenes.TOP, 0, 0));
        busy.put("revert", x -> x.revert(0, Scenes.TOP, 0, 0, 0, 0));
        busy.put("rebase", x -> x.rebase(0, x.head(0), x.head(0), 0));
        busy.put("stashPush", x -> x.stashPush(0, 0, 0));
        busy.put("stashApply", x -> Edge.yes(x.stashApply(0, 0, false)));
        busy.put("stashPop", x -> Edge.yes(x.stashPop(0, 0, false)));
        Edge.Scene[] scenes = {Scenes::stopped, Scenes::picking, Scenes::reverting, Scenes::rebasing};
        boolean all = busy.containsKey(method);
        for (Edge.Scene scene : scenes) {
            VersionWorks x = scene.make();
            for (int path : new int[] {0, 8, 15}) {
                x.unstage(0, path);
                if (x.fileLines(0, path) != NONE) {
                    x.removeFile(0, path);
                }
            }
            for (int path : new int[] {0, 15}) {
                x.restore(0, path);
            }
            all = all && Due.told(() -> busy.get(method).on(x)).equals(Due.STATE);
        }
        return all;
    }

    /** All that a commit tells, however its repository numbers it. */
    private static String history(VersionWorks x, int r, int o, Map<Integer, String> known) {
        if (o == NONE) {
            return "none";
        }
        if (!known.containsKey(o)) {
            StringBuilder out = new StringBuilder(held(x, r, o).replaceAll("^([123])( -?\\d+)+", "$1"));
            for (int part : parts(x, r, o)) {
                out.append(" (").append(history(x, r, part, known).hashCode()).append(")");
            }
            known.put(o, out.toString());
        }
        return known.get(o);
    }

    private static void fetchesComeThrough() {
        Edge.says("part all", "A fetch that comes through leaves, for each branch of the other repository, a track whose "
                + "commit is its twin");
        for (int seed = 1; seed < 30; seed++) {
            VersionWorks x = new VersionWorks();
            for (int k = 0; k < 3; k++) {
                x.rehearse(0, seed * 31 + k, 40);
                x.rehearse(1, seed * 57 + k, 20);
            }
            if (x.objects(0) + x.objects(1) >= 240) {
                continue;
            }
            int came = commits(x, 0);
            boolean through = false;
            for (int times = 0; times < 20 && !through; times++) {
                through = x.fetch(0, 22) != NONE;
                Due.yes("it brings no more than the limit", through || x.sent() == 22);
                Due.yes("it brings one commit at least", through || commits(x, 0) > came);
                came = commits(x, 0);
            }
            Edge.says("part all", "so asking again and again, with nothing else in between, comes through at last, where there is room");
            Due.yes("it comes through at last", through);
            Edge.says("part all", "a push that comes through does the same over there");
            int pushed = x.branchAt(1, 0);
            String got = pushed == NONE ? "none" : Due.told(() -> x.push(1, 0, 5, 1, 240));
            if (pushed != NONE && !got.endsWith("Exception")) {
                Due.same("the twin over there", x.twin(1, pushed), x.branchAt(0, 5));
                Due.same("commit for commit, file for file", history(x, 1, pushed, new HashMap<>()),
                        history(x, 0, x.branchAt(0, 5), new HashMap<>()));
            }
            for (int b = 0; b < 6; b++) {
                int commit = x.branchAt(1, b);
                if (commit != NONE) {
                    Due.same("a track at the twin", x.twin(1, commit), x.trackAt(0, b));
                    Due.same("commit for commit, file for file", history(x, 1, commit, new HashMap<>()),
                            history(x, 0, x.trackAt(0, b), new HashMap<>()));
                }
            }
        }
    }

    /** Two commits of sixteen files each: a commit, its root, four trees and sixteen blobs are 22 objects. */
    private static VersionWorks sixteen() {
        VersionWorks x = new VersionWorks();
        for (int k = 1; k <= 2; k++) {
            for (int p = 0; p < 16; p++) {
                x.write(0, p, 100000 * k + 11111 + p % 8 + (p / 8) * 10);
                x.deleteLine(0, p, 5);
                x.insertLine(0, p, 0, 20 + p);
            }
            x.addAll(0);
            x.commit(0, 0, k);
        }
        return x;
    }

    private static int commits(VersionWorks x, int r) {
        int count = 0;
        for (int o = 0; o < x.objects(r); o++) {
            count += x.kind(r, o) == 2 ? 1 : 0;
        }
        return count;
    }

    private static void twentyTwo() {
        Edge.says("part all", "One that breaks off leaves every ref as it was and everything that came whole, and if it may "
                + "send 22 objects or more, it brings at least one commit that was not there");
        VersionWorks x = sixteen();
        Due.is("two commits of 22 objects", 44, () -> x.objects(0));
        Due.is("breaks off", NONE, () -> x.fetch(1, 22));
        Due.same("one commit came", 1, commits(x, 1));
        Due.is("no track", NONE, () -> x.trackAt(1, 0));
        Due.is("everything stays that came", 22, () -> x.objects(1));
        Due.is("the second time it comes through", 1, () -> x.fetch(1, 22));
        Due.same("both commits", 2, commits(x, 1));
        VersionWorks y = sixteen();
        for (int k = 0; k < 3; k++) {
            Due.is("with 21 it always breaks off", NONE, () -> y.fetch(1, 21));
            Due.same("no commit came", 0, commits(y, 1));
            Due.is("the same 21 again", 21, () -> y.sent());
        }
        Due.is("doubles", 21, () -> y.doubles());
        Due.is("with 22 one comes", NONE, () -> y.push(0, 0, 1, 0, 22));
        Due.same("one commit came", 1, commits(y, 1));
        Due.is("and the other", 1, () -> y.push(0, 0, 1, 0, 22) >= 0 ? 1 : 0);
    }

    private static void collectsNothingReached() {
        Edge.says("part all", "Nothing that a ref, the index, the reflog, a stash, an operation in progress or a bisection "
                + "reaches is ever collected, and to pack changes no answer but those of the packs");
        Edge.Scene[] scenes = {Scenes::ends, Scenes::stopped, Scenes::rebasing, Scenes::searching, Scenes::clashed,
            Scenes::reverting};
        for (Edge.Scene scene : scenes) {
            VersionWorks x = scene.make();
            x.collect(0, 9999);
            String before = Whole.of(x, 0);
            int reached = x.reached(0);
            x.tick(0, 999);
            x.collect(0, 0);
            Due.is("as many are reached", reached, () -> x.reached(0));
            VersionWorks y = scene.make();
            y.pack(0, 8, 8);
            Due.same("no answer but those of the packs", bare(before), bare(Whole.of(y, 0)));
        }
    }

    private static String bare(String whole) {
        return whole.replaceAll(" packed:", ":").replaceAll(" out of -?\\d+", "").replaceAll("size \\d+", "");
    }

    // ---- clocks, lines, objects

    private static void clocks() {
        Edge.says("part 0", "Each has a clock (0 to 9999, 0 at first), which tick() alone moves, each by itself");
        VersionWorks x = Scenes.ends();
        Due.is("0 at first", 0, () -> x.clock(0));
        x.tick(1, 999);
        Due.is("each by itself", 0, () -> x.clock(0));
        for (int k = 0; k < 9; k++) {
            x.tick(1, 999);
        }
        Due.is("up to 9999", 9999, () -> x.tick(1, 9));
        Due.state("not above", () -> x.tick(1, 1));
        x.fetch(0, 240);
        x.push(1, 2, 1, 0, 240);
        Due.is("a transfer does not move it", 0, () -> x.clock(0));
        Due.is("a commit at the last time", 9999, () -> x.date(1, x.amend(1, 1, 1)));
        Edge.says("part 0", "The date of a commit, or of a tag object, that a method makes is the clock of its repository, "
                + "whatever the dates of its parents are");
        x.fetch(0, 240);
        x.reset(0, x.trackAt(0, 2), 2);
        Due.is("older than its parent", 0, () -> x.date(0, commit(x, 0, 7, 1, 1)));
        Due.is("its parent", 9999, () -> x.date(0, x.parent(0, x.head(0), 0)));
        Due.is("a tag object older than its commit", 0, () -> x.date(0, x.annotate(0, 1, x.trackAt(0, 2), 1)));
    }

    private static void linesAndPaths() {
        Edge.says("part 0", "A line is a number: 1 to 99 can be written; 100, 101 and 102 are the marks of conflicts and come "
                + "by merges alone");
        Due.argument("line 100", () -> Scenes.ends().insertLine(0, 0, 0, 100));
        Due.argument("line 0", () -> Scenes.ends().insertLine(0, 0, 0, 0));
        VersionWorks x = Scenes.stopped();
        Due.is("the mark of ours", 100, () -> x.fileLine(0, 0, 5));
        Due.is("the mark of theirs", 101, () -> x.fileLine(0, 0, 7));
        Due.is("the mark of the end", 102, () -> x.fileLine(0, 0, 9));
        Due.is("marks may be deleted", 100, () -> x.deleteLine(0, 0, 5));
        Edge.says("part 0", "A file is a row of 0 to 60 lines");
        VersionWorks y = new VersionWorks();
        Due.is("0 lines", 0, () -> y.write(0, 0, 0));
        for (int k = 0; k < 60; k++) {
            y.insertLine(0, 0, k, 1);
        }
        Due.is("60 lines", 60, () -> y.fileLines(0, 0));
        Due.is("a blob of 60 lines", 60, () -> y.blobLines(0, y.add(0, 0)));
        Edge.says("part 0", "path p lies in the folder p / 4 and has there the name p modulo 4");
        for (int path : new int[] {0, 3, 4, 7, 11, 12, 15}) {
            VersionWorks z = new VersionWorks();
            int made = commit(z, 0, path, 5, 1);
            int root = z.rootTree(0, made);
            for (int folder = 0; folder < 4; folder++) {
                int tree = z.entry(0, root, folder);
                Due.yes("its folder alone", (tree != NONE) == (folder == path / 4));
                for (int name = 0; name < 4 && tree != NONE; name++) {
                    Due.yes("its name alone", (z.entry(0, tree, name) != NONE) == (name == path % 4));
                }
            }
        }
    }

    private static void kindsOfObjects() {
        Edge.says("part 0", "The tree of a folder has blobs by their names, one at least; a root tree has trees of folders, by "
                + "the numbers of the folders, and may have none at all");
        VersionWorks x = new VersionWorks();
        commit(x, 0, 5, 5, 1);
        x.removeFile(0, 5);
        x.add(0, 5);
        int before = x.objects(0);
        int made = x.commit(0, 1, 1);
        Due.is("no tree of a folder, a root and a commit", before + 2, () -> x.objects(0));
        for (int k = 0; k < 4; k++) {
            int folder = k;
            Due.is("none at all", NONE, () -> x.entry(0, x.rootTree(0, made), folder));
        }
        VersionWorks y = new VersionWorks();
        Due.is("a repository may amend to nothing", 5, () -> {
            commit(y, 0, 0, 5, 1);
            y.removeFile(0, 0);
            y.add(0, 0);
            return y.amend(0, 1, 1);
        });
        Edge.says("part 0", "a commit: a root tree, no, one or two parents (commits, in their order), an author (0 to 9), a "
                + "date (0 to 9999), a message (0 to 99)");
        VersionWorks z = Scenes.ends();
        z.merge(0, Scenes.SIDE, 1, 2, 9, 99);
        Due.is("no parent", NONE, () -> z.parent(0, Scenes.ROOT, 0));
        Due.is("one parent", Scenes.ROOT, () -> z.parent(0, Scenes.TOP, 0));
        Due.is("two, the first", Scenes.TOP, () -> z.parent(0, z.head(0), 0));
        Due.is("two, the second", Scenes.SIDE, () -> z.parent(0, z.head(0), 1));
        Edge.says("part 0", "The ancestors of a commit are the commits that it reaches by parents, itself among them; a commit "
                + "descends from each of its ancestors but itself");
        Due.is("itself among them", 1, () -> Edge.yes(z.isAncestor(0, Scenes.TOP, Scenes.TOP)));
        Due.is("but itself: it is its own merge base", 1, () -> z.bases(0, Scenes.TOP, Scenes.TOP));
    }

    private static void holdTheSame() {
        Edge.says("part 0", "Two objects hold the same, if they are of the same kind, their lines, or their author, date and "
                + "message, are the same, and so are their parts, one by one in their order (none and none being the same)");
        VersionWorks x = new VersionWorks();
        x.write(0, 0, 12);
        x.write(0, 1, 21);
        x.write(0, 2, 0);
        x.write(0, 3, 12);
        x.addAll(0);
        Due.is("the order of lines", 1, () -> x.indexed(0, 1));
        Due.is("no lines", 2, () -> x.indexed(0, 2));
        Due.is("the same lines", 0, () -> x.indexed(0, 3));
        VersionWorks y = new VersionWorks();
        int one = commit(y, 0, 0, 1, 1);
        Due.is("all the same", one, () -> y.amend(0, 1, 1));
        Due.is("another author", one + 1, () -> y.amend(0, 2, 1));
        Due.is("another message", one + 2, () -> y.amend(0, 1, 2));
        y.tick(0, 1);
        Due.is("another date", one + 3, () -> y.amend(0, 1, 1));
        y.moveFile(0, 0, 1);
        y.addAll(0);
        Due.is("another name: a tree, a root, a commit", one + 6, () -> y.amend(0, 1, 1));
        y.moveFile(0, 1, 5);
        y.addAll(0);
        // The tree of folder 1 holds the same as that of folder 0 did; the root has it at another place.
        Due.is("another folder: a root, a commit", one + 8, () -> y.amend(0, 1, 1));
        int last = y.head(0);
        y.startBranch(0, 1);
        Due.is("no parent and no parent", last, () -> y.commit(0, 1, 1));
        Due.is("a tag object", last + 1, () -> y.annotate(0, 0, last, 1));
        Due.is("the same tag object", last + 1, () -> y.annotate(0, 1, last, 1));
        Due.is("another message", last + 2, () -> y.annotate(0, 2, last, 2));
        Due.is("another commit", last + 3, () -> y.annotate(0, 3, one, 1));
        y.tick(0, 1);
        Due.is("another date", last + 4, () -> y.annotate(0, 4, last, 1));
        VersionWorks z = Scenes.ends();
        z.reset(0, Scenes.TOP, 2);
        z.merge(0, Scenes.SIDE, 1, 1, 1, 1);
        int merged = z.head(0);
        Due.is("alike, it is the same commit", merged, () -> {
            z.reset(0, Scenes.TOP, 2);
            z.merge(0, Scenes.SIDE, 1, 1, 1, 1);
            return z.head(0);
        });
        Due.is("the other order of parents", merged + 1, () -> {
            z.reset(0, Scenes.SIDE, 2);
            z.merge(0, Scenes.TOP, 1, 2, 1, 1);
            return z.rootTree(0, z.head(0)) == z.rootTree(0, merged) ? z.head(0) : NONE;
        });
    }

    /** What differs in two places, by 1 in the one and by 31 in the other: sums that stand for it could be the same. */
    private static void holdNearlyTheSame() {
        Edge.says("part 0", "Two objects hold the same, if they are of the same kind, their lines, or their author, date and "
                + "message, are the same, and so are their parts, one by one in their order");
        VersionWorks x = new VersionWorks();
        for (int line = 1; line <= 40; line++) {
            x.write(0, 5, 0);
            x.insertLine(0, 5, 0, line);
            Due.same("a blob of the line " + line, line - 1, x.add(0, 5));
        }
        x.write(0, 0, 21);
        int two = x.add(0, 0);
        x.write(0, 0, 1);
        x.insertLine(0, 0, 1, 32);
        Due.is("1 and 32 are not 2 and 1", two + 1, () -> x.add(0, 0));
        x.write(0, 0, 2);
        x.write(0, 1, 1);
        x.addAll(0);
        int one = x.commit(0, 1, 5);
        x.write(0, 0, 1);
        x.write(0, 1, 0);
        x.insertLine(0, 1, 0, 32);
        x.addAll(0);
        int other = x.amend(0, 1, 5);
        Due.same("blobs 0 and 31 are not blobs 1 and 0: a tree, a root, a commit", one + 3, other);
        Due.is("blob 0", 0, () -> x.blobAt(0, other, 0));
        Due.is("blob 31", 31, () -> x.blobAt(0, other, 1));
        int tagged = x.annotate(0, 0, other, 7);
        x.tick(0, 31);
        Due.is("message 4 at 31 is not message 5 at 0", tagged + 1, () -> x.amend(0, 1, 4));
        Due.is("nor is a tag object", tagged + 2, () -> x.annotate(0, 1, other, 6));
        Due.is("the message", 6, () -> x.message(0, tagged + 2));
    }

    private static void numbersAndStamps() {
        Edge.says("part 0", "To store an object: if one is present that holds the same, it is that one");
        Edge.says("part 0", "otherwise it gets the next number, from 0 on; a number is never used again, also when its object "
                + "was collected");
        VersionWorks x = new VersionWorks();
        x.write(0, 0, 1);
        Due.is("from 0 on", 0, () -> x.add(0, 0));
        x.unstage(0, 0);
        Due.is("collected", 1, () -> x.collect(0, 0));
        Due.is("the next, though nothing is present", 1, () -> x.add(0, 0));
        Due.is("given so far", 2, () -> x.objects(0));
        Edge.says("part 0", "Each object has a stamp: the clock as it was stored last, also if it was present already");
        x.tick(0, 7);
        Due.is("stored at 0", 0, () -> x.stamp(0, 1));
        x.add(0, 0);
        Due.is("stored again", 7, () -> x.stamp(0, 1));
        Edge.says("part 0", "What an act stores it stores in the order in which its text tells");
        VersionWorks y = new VersionWorks();
        for (int path = 15; path >= 0; path -= 5) {
            y.write(0, path, path + 1 + (path == 10 ? 10 : path == 9 ? 1 : 0));
        }
        y.addAll(0);
        for (int k = 0; k < 4; k++) {
            int path = 5 * k;
            Due.is("by rising paths", k, () -> y.indexed(0, path));
        }
    }

    private static void snapshots() {
        Edge.says("part 0", "To store a snapshot is to store, for the folders 0 to 3, the tree of each that has a blob, and "
                + "then the root tree; the blobs are present already, and are not stored anew");
        VersionWorks x = new VersionWorks();
        for (int path = 0; path < 16; path += 5) {
            x.write(0, path, 1 + path % 9);
        }
        x.removeFile(0, 5);
        x.addAll(0);
        x.tick(0, 3);
        Due.is("three blobs, three trees, a root, the commit", 7, () -> x.commit(0, 0, 0));
        Due.is("a blob is not stored anew", 0, () -> x.stamp(0, 0));
        Due.is("folder 0", 3, () -> x.entry(0, 6, 0));
        Due.is("folder 1 has none", NONE, () -> x.entry(0, 6, 1));
        Due.is("folder 2", 4, () -> x.entry(0, 6, 2));
        Due.is("folder 3", 5, () -> x.entry(0, 6, 3));
        x.tick(0, 3);
        x.amend(0, 1, 1);
        for (int k = 3; k <= 6; k++) {
            int tree = k;
            Due.is("trees are stored again", 6, () -> x.stamp(0, tree));
        }
        Due.is("blobs are not", 0, () -> x.stamp(0, 2));
        Due.is("the commit of before is not", 3, () -> x.stamp(0, 7));
    }

    private static void numbersGivenEver() {
        Edge.says("part 0", "A repository gets at most 240 object numbers ever");
        VersionWorks x = new VersionWorks();
        Scenes.fill(x, 0, 0);
        Due.is("all numbers", 240, () -> x.objects(0));
        Due.is("all are collected", 240, () -> x.collect(0, 0));
        x.write(0, 0, 1);
        Due.state("ever: also if nothing is present", () -> x.add(0, 0));
        Due.is("the other repository has its own", 0, () -> {
            x.write(1, 0, 1);
            return x.add(1, 0);
        });
        VersionWorks y = new VersionWorks();
        Scenes.fill(y, 0, 1);
        y.write(0, 0, 1);
        Due.is("the last number", 239, () -> y.add(0, 0));
        Edge.says("part 0", "A method that would have to give it more throws an IllegalStateException, if it would do so at all "
                + "behind its other reasons");
        Edge.refused("the argument ahead of the room", Due.ARGUMENT, () -> Scenes.full(Scenes::ends, 0, 0),
                z -> z.amend(0, 10, 0));
        Edge.refused("the place ahead of the room", Due.INDEX, () -> Scenes.full(Scenes::ends, 0, 0),
                z -> z.annotate(0, 1, Scenes.COUNT + 500, 0));
    }

    // ---- refs, the index

    private static void heads() {
        Edge.says("part 0", "at first it is on branch 0, and there are no refs");
        VersionWorks x = new VersionWorks();
        Due.is("on branch 0", 0, () -> x.headBranch(0));
        Due.is("which is not there", NONE, () -> x.branchAt(0, 0));
        Edge.says("part 0", "there is none, if that branch is unborn");
        Due.is("no head commit", NONE, () -> x.head(0));
        Edge.says("part 0", "The head snapshot is that of the head commit, without any blob if there is none");
        x.write(0, 0, 1);
        x.add(0, 0);
        Due.is("it has nothing", 1, () -> x.staged(0, 0));
        Edge.says("part 0", "if HEAD is on a branch, that branch is at the commit from then on, and is there, if it was not; if "
                + "HEAD is detached, HEAD is at the commit");
        int one = x.commit(0, 1, 1);
        Due.is("the branch is there", one, () -> x.branchAt(0, 0));
        x.detach(0, one);
        int two = commit(x, 0, 0, 2, 2);
        Due.is("HEAD is at it", two, () -> x.head(0));
        Due.is("the branch stays", one, () -> x.branchAt(0, 0));
        Due.is("still detached", NONE, () -> x.headBranch(0));
        Edge.says("part 0", "also if HEAD was at this commit already");
        int entries = x.reflog(0);
        x.reset(0, two, 0);
        Due.is("one more entry", entries + 1, () -> x.reflog(0));
        x.amend(0, 1, 2);
        Due.is("an amend to the same commit", entries + 2, () -> x.reflog(0));
        Due.is("the same commit", two, () -> x.reflogCommit(0, 0));
        Due.is("its act", 1, () -> x.reflogAct(0, 0));
    }

    private static void reflogs() {
        Edge.says("part 0", "Acts are 0 commit, 1 amend, 2 switch, 3 reset, 4 merge, 5 cherry-pick, 6 revert, 7 rebase, 8 push "
                + "(by the other repository)");
        Map<Integer, Edge.Act> acts = new HashMap<>();
        acts.put(0, x -> commit(x, 0, 7, 1, 1));
        acts.put(1, x -> x.amend(0, 1, 1));
        acts.put(2, x -> x.switchTo(0, 5));
        acts.put(3, x -> x.reset(0, Scenes.ROOT, 1));
        acts.put(4, x -> x.merge(0, Scenes.SIDE, 0, 1, 1, 1));
        acts.put(5, x -> x.cherryPick(0, Scenes.SIDE, 0, 1));
        acts.put(6, x -> x.revert(0, Scenes.TOP, 0, 0, 1, 1));
        acts.put(7, x -> x.rebase(0, Scenes.SIDE, Scenes.SIDE, 2));
        acts.put(8, x -> x.push(1, 3, 2, 1, 240));
        for (int act : acts.keySet()) {
            VersionWorks x = Scenes.ends();
            x.tick(0, 5);
            acts.get(act).on(x);
            Due.is("the act", act, () -> x.reflogAct(0, 0));
            Due.is("the clock", 5, () -> x.reflogDate(0, 0));
            Due.is("the commit", x.head(0), () -> x.reflogCommit(0, 0));
        }
        Edge.says("part 0", "The reflog has at most 30 entries; a 31st one drops the oldest. Entry 0 is the newest.");
        VersionWorks x = new VersionWorks();
        int one = commit(x, 0, 0, 1, 1);
        for (int k = 2; k <= 30; k++) {
            x.tick(0, 1);
            x.reset(0, one, 1);
        }
        Due.is("30 entries", 30, () -> x.reflog(0));
        Due.is("the oldest is there", 0, () -> x.reflogAct(0, 29));
        Due.index("no 31st", () -> x.reflogAct(0, 30));
        x.tick(0, 1);
        x.reset(0, one, 1);
        Due.is("still 30", 30, () -> x.reflog(0));
        Due.is("the oldest was dropped", 1, () -> x.reflogDate(0, 29));
        Due.is("entry 0 is the newest", 30, () -> x.reflogDate(0, 0));
        Due.index("no 31st", () -> x.reflogCommit(0, 30));
    }

    private static void indexes() {
        Edge.says("part 0", "A path is tracked, if the index has an entry or a conflict for it");
        VersionWorks x = Scenes.stopped();
        for (int path = 0; path < 16; path++) {
            x.ignore(0, path, false);
        }
        x.write(0, 1, 1);
        x.clean(0);
        Due.is("not tracked", NONE, () -> x.fileLines(0, 1));
        Due.yes("a conflict", x.fileLines(0, 0) != NONE);
        Due.yes("an entry", x.fileLines(0, 7) != NONE);
        Edge.says("part 0", "if the index has an entry there and the file is there and has the lines of that blob, or if the index "
                + "has nothing there and there is no file");
        Due.is("nothing and no file", 0, () -> x.unstaged(0, 1));
    }

    // ---- to carry and to force

    /** Path 0 has 1, then 2; path 1 nothing, then 3; path 2 has 4, then nothing; path 3 has 5 in both. HEAD is at the first. */
    private static VersionWorks two() {
        VersionWorks x = new VersionWorks();
        x.write(0, 0, 1);
        x.write(0, 2, 4);
        x.write(0, 3, 5);
        x.addAll(0);
        int one = x.commit(0, 0, 1);
        x.branch(0, 1, one);
        x.write(0, 0, 2);
        x.write(0, 1, 3);
        x.removeFile(0, 2);
        x.addAll(0);
        x.commit(0, 0, 2);
        x.switchTo(0, 1);
        return x;
    }

    private static void carried(String what, Edge.Act ahead, String due) {
        VersionWorks x = two();
        ahead.on(x);
        String got = Due.told(() -> x.switchTo(0, 0));
        if (got.endsWith("Exception")) {
            Due.same("carry, " + what, due, got);
            return;
        }
        StringBuilder out = new StringBuilder();
        for (int path = 0; path < 4; path++) {
            out.append(path == 0 ? "" : " ").append(row(x, path, false)).append(row(x, path, true));
        }
        Due.same("carry, " + what, due, out);
    }

    /** The one line of the entry or of the file at a path; - for none. */
    private static String row(VersionWorks x, int path, boolean file) {
        int blob = x.indexed(0, path);
        if (file ? x.fileLines(0, path) == NONE : blob == NONE) {
            return "-";
        }
        return "" + (file ? x.fileLine(0, path, 0) : x.blobLine(0, blob, 0));
    }

    private static long write(VersionWorks x, int path, long digits) {
        return x.write(0, path, digits);
    }

    private static long stage(VersionWorks x, int path, long digits) {
        x.write(0, path, digits);
        return x.add(0, path);
    }

    private static long unfile(VersionWorks x, int path) {
        return x.removeFile(0, path);
    }

    private static long untrack(VersionWorks x, int path) {
        x.removeFile(0, path);
        return x.add(0, path);
    }

    private static void carries() {
        Edge.says("part 0", "Such a path is free, if the index has there what OLD has, and the file is as the index (so not, if "
                + "OLD has nothing there and there is a file, whatever its lines are)");
        carried("all free", x -> 0, "22 33 -- 55");
        carried("changed file", x -> write(x, 0, 9), Due.STATE);
        carried("no file", x -> unfile(x, 0), Due.STATE);
        carried("a file where OLD has nothing", x -> write(x, 1, 9), Due.STATE);
        carried("a file where OLD has nothing, with the lines of NEW", x -> write(x, 1, 3), Due.STATE);
        carried("a file without lines where OLD has nothing", x -> write(x, 1, 0), Due.STATE);
        carried("no file where NEW has nothing", x -> unfile(x, 2), Due.STATE);
        carried("a changed file where NEW has nothing", x -> write(x, 2, 9), Due.STATE);
        Edge.says("part 0", "it is settled, if the index has there what NEW has (an entry with this blob, or nothing)");
        carried("settled, the file too", x -> stage(x, 0, 2), "22 33 -- 55");
        carried("settled where OLD has nothing", x -> stage(x, 1, 3), "22 33 -- 55");
        carried("settled by nothing", x -> untrack(x, 2), "22 33 -- 55");
        Edge.says("part 0", "a path that is settled and not free, and all other paths, stay as they are");
        carried("settled, another file", x -> stage(x, 0, 2) + write(x, 0, 9), "29 33 -- 55");
        carried("settled, the file of OLD", x -> stage(x, 0, 2) + write(x, 0, 1), "21 33 -- 55");
        carried("settled, no file", x -> stage(x, 0, 2) + unfile(x, 0), "2- 33 -- 55");
        carried("settled where OLD has nothing, no file", x -> stage(x, 1, 3) + unfile(x, 1), "22 3- -- 55");
        carried("settled by nothing, a file", x -> untrack(x, 2) + write(x, 2, 9), "22 33 -9 55");
        carried("settled by nothing, the file of OLD", x -> untrack(x, 2) + write(x, 2, 4), "22 33 -4 55");
        carried("the same in both: another file", x -> write(x, 3, 9), "22 33 -- 59");
        carried("the same in both: another entry", x -> stage(x, 3, 9), "22 33 -- 99");
        carried("the same in both: nothing", x -> untrack(x, 3), "22 33 -- --");
        Edge.says("part 0", "If some of these paths is neither, it cannot be carried");
        carried("another entry", x -> stage(x, 0, 9), Due.STATE);
        carried("nothing in the index", x -> untrack(x, 0), Due.STATE);
        carried("another entry where OLD has nothing", x -> stage(x, 1, 9), Due.STATE);
        carried("another entry where NEW has nothing", x -> stage(x, 2, 9), Due.STATE);
        carried("one of several", x -> stage(x, 0, 2) + stage(x, 1, 9), Due.STATE);
    }

    /** Only a fast-forward is carried over an index with a conflict. */
    private static void carriesOverConflicts() {
        Edge.says("part 0", "A path with a conflict is neither");
        for (boolean changes : new boolean[] {false, true}) {
            VersionWorks x = new VersionWorks();
            int one = commit(x, 0, 0, 1, 1);
            x.write(0, 0, 12);
            x.stashPush(0, 1, 1);
            int two = commit(x, 0, 0, 13, 2);
            int three = commit(x, 0, changes ? 0 : 1, 14, 3);
            x.reset(0, two, 2);
            Due.is("the stash conflicts", 0, () -> Edge.yes(x.stashApply(0, 0, false)));
            Due.is("path 0 has a conflict", 4, () -> x.staged(0, 0));
            Due.is("a fast-forward over it", changes ? Due.STATE : 1, () -> x.merge(0, three, 0, 0, 1, 1));
            Due.is("the conflict stays", 4, () -> x.staged(0, 0));
            Due.yes("one", one >= 0);
        }
    }

    private static void forces() {
        Edge.says("part 0", "at each path that is tracked, or of which the snapshot has a blob, the index has what the snapshot "
                + "has from then on, and the file the lines of that blob, or there is no file. All other files stay");
        VersionWorks x = two();
        int there = x.branchAt(0, 0);
        x.write(0, 1, 9);
        x.write(0, 2, 9);
        x.write(0, 3, 9);
        stage(x, 5, 6);
        x.write(0, 6, 7);
        x.removeFile(0, 0);
        x.reset(0, there, 2);
        Due.same("a file that was gone", "22", row(x, 0, false) + row(x, 0, true));
        Due.same("not tracked, but in the snapshot", "33", row(x, 1, false) + row(x, 1, true));
        Due.same("tracked, not in the snapshot", "--", row(x, 2, false) + row(x, 2, true));
        Due.same("another file", "55", row(x, 3, false) + row(x, 3, true));
        Due.same("added, not in the snapshot", "--", row(x, 5, false) + row(x, 5, true));
        Due.same("not tracked, not in the snapshot", "-7", row(x, 6, false) + row(x, 6, true));
        VersionWorks y = Scenes.clashed();
        y.reset(0, Scenes.ROOT, 2);
        Due.is("a conflict is tracked", NONE, () -> y.fileLines(0, 7));
        Due.is("it is over", 0, () -> y.staged(0, 7));
    }

    // ---- lists

    private static void lists() {
        Edge.says("part 0", "that with the greatest date comes next, of several that with the greatest number");
        VersionWorks x = new VersionWorks();
        int root = commit(x, 0, 0, 1, 1);
        x.detach(0, root);
        int a = commit(x, 0, 0, 2, 2);
        x.detach(0, root);
        int b = commit(x, 0, 0, 3, 3);
        x.branch(0, 1, a);
        x.branch(0, 2, b);
        Scenes.typed(x, "B1...B2");
        Due.is("of one date the greatest number", b, () -> x.listed(0, 0));
        Due.is("then the other", a, () -> x.listed(0, 1));
        x.reset(0, a, 2);
        x.tick(0, 1);
        int late = x.amend(0, 1, 2);
        x.tick(0, 1);
        x.reset(0, b, 2);
        int later = x.amend(0, 1, 2);
        x.moveBranch(0, 1, later);
        x.moveBranch(0, 2, late);
        Due.is("the greatest date", later, () -> x.listed(0, 0));
        Due.yes("which is the greatest number, too", later > late);
        Edge.says("part 0", "So, in a set that has with each two commits all that lie between them, no commit comes behind one "
                + "of its ancestors, whatever the clocks were");
        VersionWorks y = new VersionWorks();
        y.tick(0, 50);
        commit(y, 0, 0, 1, 1);
        int parent = commit(y, 0, 0, 2, 2);
        y.fetch(1, 240);
        y.reset(1, y.twin(0, parent), 2);
        int young = commit(y, 1, 0, 3, 3);
        Scenes.typed(y, "H");
        Due.is("of date 0, ahead of its parent of date 50", young, () -> y.listed(1, 0));
        Due.is("its parent", y.twin(0, parent), () -> y.listed(1, 1));
        Due.is("three", 3, () -> y.list(1));
    }

    private static void listsOfSets() {
        Edge.says("part 0", "commits that are not in the set count as no children");
        Edge.says("part 6", "commits that do not belong to it count as no children");
        VersionWorks x = new VersionWorks();
        x.tick(0, 50);
        int old = commit(x, 0, 0, 1, 1);
        x.fetch(1, 240);
        x.reset(1, x.twin(0, old), 2);
        commit(x, 1, 5, 5, 2);
        int young = commit(x, 1, 0, 2, 3);
        // The history of path 0 is the first and the third commit; the second, which lies between, is not in the set.
        Due.is("two commits", 2, () -> x.pathLog(1, young, 0));
        Due.is("the one of the greater date first", x.twin(0, old), () -> x.pathLogAt(1, young, 0, 0));
        Due.is("then its descendant", young, () -> x.pathLogAt(1, young, 0, 1));
    }
}
