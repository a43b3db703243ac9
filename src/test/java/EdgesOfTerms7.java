/** The sentences of part 7 of the terms that name a boundary: merges, picks, rebases, what is proceeded with and aborted. */
final class EdgesOfTerms7 {
    private static final int NONE = VersionWorks.NONE;
    private static final int ROOT = Scenes.ROOT;
    private static final int TOP = Scenes.TOP;
    private static final int SIDE = Scenes.SIDE;
    /** In place of a row of lines: nothing. */
    private static final int[] NOTHING = null;

    public static void main(String[] args) {
        stretches();
        clashes();
        favours();
        snapshots();
        longRows();
        bases();
        basesOfBases();
        theDepth3();
        touched();
        stored();
        mergesMade();
        picks();
        picksUntouched();
        rebaseLists();
        rebaseChanges();
        rebaseSteps();
        rebaseEnds();
        rebaseBranches();
        undoneRebase();
        proceeds();
        skips();
        aborts();
        mergedFiles();
        Edge.end("EdgesOfTerms7");
    }

    // ---- rows

    private static void put(VersionWorks x, int path, int[] lines) {
        if (lines == NOTHING) {
            if (x.fileLines(0, path) != NONE) {
                x.removeFile(0, path);
            }
        } else {
            x.write(0, path, 0);
            for (int k = 0; k < lines.length; k++) {
                x.insertLine(0, path, k, lines[k]);
            }
        }
    }

    private static int commit(VersionWorks x, int message) {
        x.addAll(0);
        return x.commit(0, 1, message);
    }

    /** A base, then ours and theirs, each a child of it: branches 1 and 2; HEAD is at ours. Path 15 is another in each. */
    private static VersionWorks sides(int[] base, int[] ours, int[] theirs) {
        VersionWorks x = new VersionWorks();
        put(x, 0, base);
        put(x, 15, new int[] {1, 2, 3});
        int root = commit(x, 0);
        put(x, 0, theirs);
        put(x, 15, new int[] {1, 2, 3, 8});
        x.branch(0, 2, commit(x, 2));
        x.reset(0, root, 2);
        put(x, 0, ours);
        put(x, 15, new int[] {9, 1, 2, 3});
        x.branch(0, 1, commit(x, 1));
        return x;
    }

    /** What is merged or left at path 0, with ! in front for a conflict. */
    private static String merged(int[] base, int[] ours, int[] theirs) {
        VersionWorks x = sides(base, ours, theirs);
        int one = x.branchAt(0, 1);
        int other = x.branchAt(0, 2);
        int bits = x.wouldClash(0, one, other);
        Due.same("path 15 never clashes", 0, bits >> 15);
        StringBuilder out = new StringBuilder();
        int lines = x.mergedLines(0, one, other, 0);
        for (int k = 0; k < lines; k++) {
            out.append(k == 0 ? "" : " ").append(x.mergedLine(0, one, other, 0, k));
        }
        int[] beside = {9, 1, 2, 3, 8};
        for (int k = 0; k < 5; k++) {
            int place = k;
            Due.is("path 15", beside[k], () -> x.mergedLine(0, one, other, 15, place));
        }
        Due.index("behind the last line", () -> x.mergedLine(0, one, other, 0, Math.max(lines, 0)));
        return ((bits & 1) != 0 ? "!" : "") + (lines == NONE ? "nothing" : out.toString());
    }

    private static int[] row(int... lines) {
        return lines;
    }

    private static void stretches() {
        Edge.says("part 7", "one ahead of the first fixed line, one between each two next to each other, one behind the last; any "
                + "of them may be without lines");
        Due.same("ahead and behind", "9 1 2 8", merged(row(1, 2), row(9, 1, 2), row(1, 2, 8)));
        Due.same("between", "1 9 2 8", merged(row(1, 2), row(1, 9, 2), row(1, 2, 8)));
        Due.same("removed at the front and at the end", "2", merged(row(1, 2, 3), row(2, 3), row(1, 2)));
        Due.same("next to each other", "9 2 8", merged(row(1, 2, 3), row(9, 2, 3), row(1, 2, 8)));
        Edge.says("part 7", "theirs, if ours has the same lines there as the base; otherwise ours, if theirs has the same lines "
                + "there as the base, or as ours; otherwise the stretch clashes");
        Due.same("ours as the base, without lines", "1 8 2 5", merged(row(1, 2), row(1, 2, 5), row(1, 8, 2)));
        Due.same("theirs as the base, without lines", "1 9 2 8", merged(row(1, 2), row(1, 9, 2), row(1, 2, 8)));
        Due.same("theirs as ours", "1 9 2 3 8", merged(row(1, 2, 3), row(1, 9, 2, 3), row(1, 9, 2, 3, 8)));
        Due.same("both removed the same", "1 3 8", merged(row(1, 2, 3), row(1, 3), row(1, 3, 8)));
        Due.same("a line is fixed, if it is in a pair in both", "!100 9 2 101 1 8 102 3",
                merged(row(1, 2, 3), row(9, 2, 3), row(1, 8, 3)));
    }

    private static void clashes() {
        Edge.says("part 7", "by favour 0, the line 100, ours, the line 101, theirs, the line 102");
        Due.same("between", "!1 100 9 101 8 102 2", merged(row(1, 2), row(1, 9, 2), row(1, 8, 2)));
        Due.same("ours has none there", "!1 100 101 8 102 3", merged(row(1, 2, 3), row(1, 3), row(1, 8, 3)));
        Due.same("theirs has none there", "!1 100 9 101 102 3", merged(row(1, 2, 3), row(1, 9, 3), row(1, 3)));
        Due.same("no fixed line", "!100 9 101 8 102", merged(row(1), row(9), row(8)));
        Due.same("no lines in the base", "!100 9 101 8 102", merged(row(), row(9), row(8)));
        Due.same("ahead of the first", "!100 9 101 8 102 1", merged(row(1), row(9, 1), row(8, 1)));
        Due.same("behind the last", "!1 100 9 101 8 102", merged(row(1), row(1, 9), row(1, 8)));
        Due.same("two of them", "!100 9 101 8 102 1 100 7 101 6 102", merged(row(1), row(9, 1, 7), row(8, 1, 6)));
        Due.same("one begins as the other does: the stretch is one", "!100 5 9 101 5 8 102 1",
                merged(row(1), row(5, 9, 1), row(5, 8, 1)));
    }

    private static void favours() {
        Edge.says("part 7", "otherwise the stretch clashes, and it is, by favour 1, ours; by favour 2, theirs");
        for (int favour = 0; favour <= 2; favour++) {
            VersionWorks x = sides(row(1, 2, 3), row(9, 2, 7), row(8, 2));
            int f = favour;
            Due.is("merged, or stopped", f == 0 ? 3 : 2, () -> x.merge(0, x.branchAt(0, 2), 0, f, 1, 1));
            String[] due = {"100 9 101 8 102 2 100 7 101 102", "9 2 7", "8 2"};
            Due.same("the file", due[f], lines(x, 0));
            Due.same("what does not clash is merged by any favour", "9 1 2 3 8", lines(x, 15));
        }
    }

    private static String lines(VersionWorks x, int path) {
        StringBuilder out = new StringBuilder();
        for (int k = 0; k < x.fileLines(0, path); k++) {
            out.append(k == 0 ? "" : " ").append(x.fileLine(0, path, k));
        }
        return x.fileLines(0, path) == NONE ? "nothing" : out.toString();
    }

    // ---- snapshots

    private static void snapshots() {
        Edge.says("part 7", "two have the same, if both have nothing, or both have the same lines");
        int[] one = row(1);
        int[] other = row(2);
        int[] empty = row();
        Edge.says("part 7", "1. If ours and theirs have the same, or theirs has the same as the base, the result is what ours has.");
        Due.same("all nothing", "nothing", merged(NOTHING, NOTHING, NOTHING));
        Due.same("both added the same", "1", merged(NOTHING, one, one));
        Due.same("both removed it", "nothing", merged(one, NOTHING, NOTHING));
        Due.same("both changed it alike", "2", merged(one, other, other));
        Due.same("ours added it", "1", merged(NOTHING, one, NOTHING));
        Due.same("ours removed it", "nothing", merged(one, NOTHING, one));
        Due.same("ours made it a file without lines", "", merged(one, empty, one));
        Due.same("ours added a file without lines", "", merged(NOTHING, empty, NOTHING));
        Edge.says("part 7", "2. Otherwise, if ours has the same as the base, the result is what theirs has.");
        Due.same("theirs added it", "1", merged(NOTHING, NOTHING, one));
        Due.same("theirs removed it", "nothing", merged(one, one, NOTHING));
        Due.same("theirs changed it", "2", merged(one, one, other));
        Due.same("theirs removed a file without lines", "nothing", merged(empty, empty, NOTHING));
        Edge.says("part 7", "3. Otherwise, if ours or theirs has nothing, there is a conflict; left are the lines of the one that "
                + "has some.");
        Due.same("ours has nothing", "!2", merged(one, NOTHING, other));
        Due.same("theirs has nothing", "!2", merged(one, other, NOTHING));
        Due.same("a file without lines, theirs has nothing", "!", merged(one, empty, NOTHING));
        Due.same("a file without lines, ours has nothing", "!", merged(one, NOTHING, empty));
        Due.same("a base without lines", "!1", merged(empty, NOTHING, one));
        Edge.says("part 7", "4. Otherwise their lines are merged (a base that has nothing is a row without lines).");
        Due.same("both added", "!100 1 101 2 102", merged(NOTHING, one, other));
        Due.same("both added, one without lines: no stretch clashes", "2", merged(NOTHING, empty, other));
        Due.same("both added, the other one without lines", "1", merged(NOTHING, one, empty));
        Due.same("ours without lines", "!100 101 2 102", merged(one, empty, other));
    }

    /** Ours has that many lines ahead of line 1, theirs that many behind it; they are no part of a clash. */
    private static VersionWorks long0(int ours, int theirs, boolean clash) {
        int[] one = new int[ours + 1];
        int[] other = new int[theirs + 1];
        java.util.Arrays.fill(one, 20);
        java.util.Arrays.fill(other, 30);
        one[clash ? 0 : ours] = 1;
        other[0] = 1;
        return sides(row(1), one, other);
    }

    private static void longRows() {
        Edge.says("part 7", "If the merged row has more than 60 lines, there is a conflict; left are the lines of ours. If not, and "
                + "a stretch clashes by favour 0, there is a conflict; left is the merged row. If not, the result is the merged "
                + "row.");
        for (int more = 0; more <= 1; more++) {
            // 29 and 30 lines with line 1 are 60; with one more they are 61.
            VersionWorks x = long0(29 + more, 30, false);
            int ours = x.branchAt(0, 1);
            int theirs = x.branchAt(0, 2);
            Due.is("60 or 61 lines", more, () -> x.wouldClash(0, ours, theirs));
            Due.is("the merged row, or ours", more == 0 ? 60 : 31, () -> x.mergedLines(0, ours, theirs, 0));
            int m = more;
            for (int favour = 0; favour <= 2; favour++) {
                int f = favour;
                Due.is("by any favour", m == 0 ? 2 : 3, () -> long0(29 + m, 30, false).merge(0, theirs, 0, f, 1, 1));
            }
            // Line 1, 28 lines, 28 lines and three marks are 60; with one more they are 61.
            VersionWorks y = long0(28 + more, 28, true);
            Due.is("60 or 61 lines, with marks", 3, () -> y.merge(0, y.branchAt(0, 2), 0, 0, 1, 1));
            Due.is("the merged row, or ours", m == 0 ? 60 : 30, () -> y.fileLines(0, 0));
            Due.is("a conflict in both", 4, () -> y.staged(0, 0));
            VersionWorks z = long0(28 + more, 28, true);
            Due.is("by a favour it is shorter", 2, () -> z.merge(0, z.branchAt(0, 2), 0, 2, 1, 1));
            Edge.says("mergeFile", "if this has more than 60 lines, with the lines of ours");
            y.write(0, 0, 7);
            Due.is("mergeFile", 1, () -> y.mergeFile(0, 0, 0));
            Due.is("the merged row, or ours", m == 0 ? 60 : 30, () -> y.fileLines(0, 0));
            Due.is("by favour theirs", 1, () -> y.mergeFile(0, 0, 2));
            Due.is("theirs", 29, () -> y.fileLines(0, 0));
        }
        VersionWorks x = long0(59, 59, true);
        Due.is("60 lines each", 3, () -> x.merge(0, x.branchAt(0, 2), 0, 0, 1, 1));
        Due.is("ours", 60, () -> x.fileLines(0, 0));
        Due.is("by a favour they fit", 60, () -> {
            x.mergeFile(0, 0, 2);
            return x.fileLines(0, 0);
        });
        VersionWorks y = long0(59, 59, false);
        Due.is("119 lines", 3, () -> y.merge(0, y.branchAt(0, 2), 0, 1, 1, 1));
        Due.is("ours", 60, () -> y.fileLines(0, 0));
        y.removeFile(0, 0);
        Due.is("no stretch clashes", 0, () -> y.mergeFile(0, 0, 2));
        Due.is("still ours", 60, () -> y.fileLines(0, 0));
    }

    // ---- bases

    private static String base(VersionWorks x, int one, int other, int path) {
        int lines = x.baseLines(0, one, other, path);
        StringBuilder out = new StringBuilder();
        for (int k = 0; k < lines; k++) {
            out.append(k == 0 ? "" : " ").append(x.baseLine(0, one, other, path, k));
        }
        Due.index("behind the last line", () -> x.baseLine(0, one, other, path, Math.max(lines, 0)));
        Due.index("ahead of the first line", () -> x.baseLine(0, one, other, path, -1));
        return lines == NONE ? "nothing" : out.toString();
    }

    private static void bases() {
        Edge.says("part 7", "Without bases, it is a snapshot that has nothing. With one base, or at the depth 3, it is the "
                + "snapshot of the first base.");
        VersionWorks x = Scenes.ends();
        Due.same("one base", "1 2 3 4 5", base(x, TOP, SIDE, 0));
        Due.same("it has nothing there", "nothing", base(x, TOP, SIDE, 7));
        Due.same("an ancestor", "1 2 3 4 5", base(x, TOP, ROOT, 0));
        Due.same("itself", "1 2 3 4 5 9", base(x, TOP, TOP, 0));
        x.startBranch(0, 1);
        int apart = x.commit(0, 1, 1);
        Due.same("no base", "nothing", base(x, apart, TOP, 0));
        Due.is("all are added on both sides", 0, () -> x.wouldClash(0, apart, TOP));
        VersionWorks y = sides(row(), row(1), row(2));
        Due.same("a row without lines", "", base(y, y.branchAt(0, 1), y.branchAt(0, 2), 0));
    }

    /** From two sides the two merges of both, the one and the other way round, by a favour: their bases are the sides. */
    private static VersionWorks crissCross(int[] root, int[] one, int[] other) {
        VersionWorks x = sides(root, one, other);
        int ours = x.branchAt(0, 1);
        int theirs = x.branchAt(0, 2);
        for (int k = 0; k < 2; k++) {
            x.reset(0, k == 0 ? ours : theirs, 2);
            x.detach(0, k == 0 ? ours : theirs);
            x.merge(0, k == 0 ? theirs : ours, 1, 0, 1, 5 + k);
            if (x.operation(0) != 0) {
                put(x, 0, row(60 + k));
                x.addAll(0);
                x.proceed(0);
            }
            x.branch(0, 3 + k, x.head(0));
        }
        return x;
    }

    private static void basesOfBases() {
        Edge.says("part 7", "Otherwise it begins as the snapshot of the first base, and for each further base, one by one, it "
                + "becomes the merge of snapshots, with favour 0");
        VersionWorks x = crissCross(row(1, 2, 3), row(9, 2, 3), row(1, 2, 8));
        Due.is("two bases", 2, () -> x.bases(0, x.branchAt(0, 3), x.branchAt(0, 4)));
        Due.same("both merged", "9 2 8", base(x, x.branchAt(0, 3), x.branchAt(0, 4), 0));
        Due.same("both merged", "9 1 2 3 8", base(x, x.branchAt(0, 3), x.branchAt(0, 4), 15));
        Edge.says("part 7", "Where there is a conflict by 3, it has what that base has; by 4, the lines left. So it may have lines "
                + "that are in no blob");
        VersionWorks y = crissCross(row(1, 2, 3), row(1, 2, 8), NOTHING);
        Due.is("two bases", 2, () -> y.bases(0, y.branchAt(0, 3), y.branchAt(0, 4)));
        Due.same("by 3: what the base of both has", "1 2 3", base(y, y.branchAt(0, 3), y.branchAt(0, 4), 0));
        VersionWorks z = crissCross(row(1, 2, 3), row(1, 9, 3), row(1, 8, 3));
        // The first base, by rising numbers, is that of branch 2, which was made first.
        Due.same("by 4: the lines left", "1 100 8 101 9 102 3", base(z, z.branchAt(0, 3), z.branchAt(0, 4), 0));
        Due.same("the other way round as well", "1 100 8 101 9 102 3", base(z, z.branchAt(0, 4), z.branchAt(0, 3), 0));
        VersionWorks w = crissCross(NOTHING, row(1), NOTHING);
        Due.same("added by one of the bases", "1", base(w, w.branchAt(0, 3), w.branchAt(0, 4), 0));
        int[] thirty = new int[31];
        java.util.Arrays.fill(thirty, 20);
        int[] others = new int[31];
        java.util.Arrays.fill(others, 30);
        VersionWorks v = crissCross(row(), thirty, others);
        Due.same("by 4, more than 60 lines: the lines of the first base", 31,
                base(v, v.branchAt(0, 3), v.branchAt(0, 4), 0).split(" ").length);
        Due.same("of the first base", "30", base(v, v.branchAt(0, 3), v.branchAt(0, 4), 0).split(" ")[0]);
    }

    /** A merge of two commits, whatever comes of it, with this line alone at path 0 in the end; a branch is at it. */
    private static int made(VersionWorks x, int branch, int one, int other, int line) {
        x.reset(0, one, 2);
        x.detach(0, one);
        if (other == NONE) {
            put(x, 0, row(line));
            x.addAll(0);
            x.commit(0, 1, line);
        } else {
            int how = x.merge(0, other, 1, 0, 1, line);
            put(x, 0, row(line));
            x.addAll(0);
            if (how == 3) {
                x.proceed(0);
            } else {
                x.amend(0, 1, line);
            }
        }
        if (x.branchAt(0, branch) != NONE) {
            x.deleteBranch(0, branch, true);
        }
        x.branch(0, branch, x.head(0));
        return x.head(0);
    }

    /**
     * Criss-crosses upon criss-crosses, each of which takes the merged snapshot of the bases below as its own base. At the
     * depth 3 the first base alone counts: there the line 2, with which the rest comes out without marks; by one depth less
     * or one more the lines 2 and 5 would clash, and all above them.
     */
    private static void theDepth3() {
        Edge.says("part 7", "whose base is the base snapshot of the set of the bases ahead of this one, and this one, at a depth 1 "
                + "greater");
        int[][][] rows = {{{2, 3}, {2, 5}, {5, 6}, {6, 7}, {8, 9}}, {{2, 3}, {4, 2}, {4, 6}, {6, 7}, {8, 9}}};
        for (int[][] lines : rows) {
            VersionWorks x = new VersionWorks();
            put(x, 15, row(1));
            put(x, 0, row(1));
            x.addAll(0);
            int root = x.commit(0, 1, 0);
            int one = root;
            int other = root;
            for (int level = 0; level < lines.length; level++) {
                int next = made(x, 1, one, level == 0 ? NONE : other, lines[level][0]);
                int beside = made(x, 2, other, level == 0 ? NONE : one, lines[level][1]);
                one = next;
                other = beside;
            }
            int a = one;
            int b = other;
            Due.is("two bases", 2, () -> x.bases(0, a, b));
            Due.same("the base snapshot", "7", base(x, a, b, 0));
            Due.same("the other way round", "7", base(x, b, a, 0));
        }
    }

    // ---- to merge into the head

    private static void touched() {
        Edge.says("part 7", "A path is touched, if there is a conflict, or the result is not what ours has. If at a touched path "
                + "the file is not as the index, it is in the way, and nothing is merged.");
        VersionWorks x = sides(row(1), row(2), row(2));
        x.write(0, 0, 7);
        Due.is("both changed it alike: not touched", 2, () -> x.merge(0, x.branchAt(0, 2), 0, 0, 1, 1));
        Due.same("the file stays", "7", lines(x, 0));
        VersionWorks y = sides(row(1), row(2), row(1));
        y.removeFile(0, 0);
        Due.is("theirs as the base: not touched", 2, () -> y.merge(0, y.branchAt(0, 2), 0, 0, 1, 1));
        VersionWorks z = sides(row(1), row(2), row(3));
        z.write(0, 0, 7);
        Due.is("by favour ours the result is what ours has: not touched", 2,
                () -> z.merge(0, z.branchAt(0, 2), 0, 1, 1, 1));
        VersionWorks w = sides(row(1), row(2), row(3));
        w.write(0, 0, 7);
        Edge.refused("a conflict is touched", Due.STATE, () -> {
            VersionWorks v = sides(row(1), row(2), row(3));
            v.write(0, 0, 7);
            return v;
        }, v -> v.merge(0, v.branchAt(0, 2), 0, 0, 1, 1));
        Edge.refused("a conflict is touched, though left are the lines of ours", Due.STATE, () -> {
            VersionWorks v = sides(row(1), row(2), NOTHING);
            v.removeFile(0, 0);
            return v;
        }, v -> v.merge(0, v.branchAt(0, 2), 0, 0, 1, 1));
        Edge.refused("a file where the head has nothing", Due.STATE, () -> {
            VersionWorks v = sides(NOTHING, NOTHING, row(3));
            v.write(0, 0, 3);
            return v;
        }, v -> v.merge(0, v.branchAt(0, 2), 0, 0, 1, 1));
    }

    private static void stored() {
        Edge.says("part 7", "is stored as a blob (also where that is the blob of theirs, which is present), which is the entry of "
                + "the index, and the lines of the file, from then on; if it is nothing, the index has nothing there, and there "
                + "is no file");
        VersionWorks x = sides(row(1), row(1), row(2));
        x.tick(0, 5);
        x.merge(0, x.branchAt(0, 2), 0, 0, 1, 1);
        Due.is("the blob of theirs", x.blobAt(0, x.branchAt(0, 2), 0), () -> x.indexed(0, 0));
        Due.is("stored anew", 5, () -> x.stamp(0, x.indexed(0, 0)));
        Due.is("the entry is the file", 0, () -> x.unstaged(0, 0));
        VersionWorks y = sides(row(1), row(1), NOTHING);
        y.merge(0, y.branchAt(0, 2), 0, 0, 1, 1);
        Due.is("nothing in the index", NONE, () -> y.indexed(0, 0));
        Due.is("no file", NONE, () -> y.fileLines(0, 0));
        VersionWorks e = sides(row(1), row(1), row());
        e.merge(0, e.branchAt(0, 2), 0, 0, 1, 1);
        Due.is("a file without lines", 0, () -> e.fileLines(0, 0));
        Due.is("is an entry", 0, () -> e.blobLines(0, e.indexed(0, 0)));
        Edge.says("part 7", "(In a conflict the blobs of ours and theirs, which are present, are not stored anew.)");
        VersionWorks z = sides(row(1), row(2), row(3));
        z.tick(0, 5);
        z.merge(0, z.branchAt(0, 2), 0, 0, 1, 1);
        Due.is("ours", 0, () -> z.stamp(0, z.stage(0, 0, 1)));
        Due.is("theirs", 0, () -> z.stamp(0, z.stage(0, 0, 2)));
        Due.is("the base is stored", 5, () -> z.stamp(0, z.stage(0, 0, 0)));
        Edge.says("part 7", "With a conflict, the base, if it has something there, is stored as a blob");
        Edge.says("part 7", "as its stages (none for nothing)");
        VersionWorks w = sides(NOTHING, row(2), row(3));
        w.merge(0, w.branchAt(0, 2), 0, 0, 1, 1);
        Due.is("no base", NONE, () -> w.stage(0, 0, 0));
        VersionWorks v = sides(row(1), NOTHING, row(3));
        v.merge(0, v.branchAt(0, 2), 0, 0, 1, 1);
        Due.is("no ours", NONE, () -> v.stage(0, 0, 1));
        Due.same("left is theirs", "3", lines(v, 0));
        VersionWorks u = sides(row(1), row(3), NOTHING);
        u.merge(0, u.branchAt(0, 2), 0, 0, 1, 1);
        Due.is("no theirs", NONE, () -> u.stage(0, 0, 2));
        Due.same("left is ours", "3", lines(u, 0));
        Edge.says("part 7", "Otherwise this is done at each touched path, by rising numbers");
        VersionWorks t = sides(row(1, 2), row(7, 1, 2), row(1, 2, 7));
        int before = t.objects(0);
        t.merge(0, t.branchAt(0, 2), 0, 0, 1, 1);
        Due.is("path 0 first", before, () -> t.indexed(0, 0));
        Due.is("then path 15", before + 1, () -> t.indexed(0, 15));
        Edge.says("part 7", "Then, if there is no conflict, the snapshot of the index is stored, and a commit of it; otherwise the "
                + "act stops, and is in progress as an operation");
        Due.is("two trees, a root, a commit", before + 5, () -> t.head(0));
        Due.is("stopped: the other paths are done", 0, () -> z.staged(0, 15) - 2);
        Due.is("no commit", z.branchAt(0, 1), () -> z.head(0));
    }

    private static void mergesMade() {
        Edge.says("part 7", "It is made also if no path is touched.");
        VersionWorks x = Scenes.ends();
        x.switchTo(0, 0);
        x.write(0, 0, 123459);
        x.write(0, 15, 123459);
        x.write(0, 7, 77);
        x.addAll(0);
        x.commit(0, 3, 3);
        int head = x.head(0);
        Due.is("of the same snapshot", 2, () -> x.merge(0, TOP, 0, 0, 5, 55));
        Due.is("the same root", x.rootTree(0, head), () -> x.rootTree(0, x.head(0)));
        Due.is("its first parent", head, () -> x.parent(0, x.head(0), 0));
        Due.is("its second parent", TOP, () -> x.parent(0, x.head(0), 1));
        Due.is("the author told", 5, () -> x.author(0, x.head(0)));
        Due.is("the message told", 55, () -> x.message(0, x.head(0)));
        VersionWorks y = Scenes.ends();
        y.switchTo(0, 0);
        Due.is("mode 1, where a fast-forward could be", 2, () -> y.merge(0, TOP, 1, 0, 5, 55));
        Due.is("of two parents", TOP, () -> y.parent(0, y.head(0), 1));
        VersionWorks z = Scenes.unborn();
        int apart = z.commit(0, 1, 1);
        Due.is("without a common ancestor, all alike", 2, () -> z.merge(0, TOP, 0, 0, 1, 1));
        Due.is("two parents", apart, () -> z.parent(0, z.head(0), 0));
    }

    // ---- picks

    private static void picks() {
        Edge.says("part 7", "A cherry-pick of a commit has as base the snapshot of its parent (of that of its two which is chosen), "
                + "one that has nothing, if it has none, and as theirs its own");
        VersionWorks x = Scenes.unborn();
        x.removeFile(0, 0);
        x.removeFile(0, 15);
        x.removeFile(0, 7);
        x.removeFile(0, 11);
        x.addAll(0);
        x.write(0, 3, 3);
        x.add(0, 3);
        x.commit(0, 1, 1);
        Due.is("a commit without a parent is picked", 2, () -> x.cherryPick(0, ROOT, 0, 0));
        Due.same("all it has is added", "1 2 3 4 5", lines(x, 15));
        Due.is("its author", x.author(0, ROOT), () -> x.author(0, x.head(0)));
        Due.is("picked where all is there", 0, () -> x.cherryPick(0, ROOT, 0, 0));
        Edge.says("part 7", "A revert has the base and theirs of a cherry-pick the other way round, and the author and the message "
                + "told; the act is 6.");
        Due.is("a commit without a parent is reverted", 2, () -> x.revert(0, ROOT, 0, 0, 7, 77));
        Due.same("all it has is gone", "nothing", lines(x, 15));
        Due.same("but what others have", "3", lines(x, 3));
        Due.is("the author told", 7, () -> x.author(0, x.head(0)));
        Due.is("the message told", 77, () -> x.message(0, x.head(0)));
        Due.is("the act", 6, () -> x.reflogAct(0, 0));
        // To nothing at all: the root tree has no tree.
        VersionWorks y = Scenes.ends();
        y.detach(0, ROOT);
        Due.is("revert to nothing", 2, () -> y.revert(0, ROOT, 0, 0, 1, 1));
        Due.is("no path is left", 0, () -> y.changed(0, NONE, y.head(0)));
        Due.is("then revert the revert", 2, () -> y.revert(0, y.head(0), 0, 0, 1, 1));
        Due.is("all is back", 0, () -> y.changed(0, ROOT, y.head(0)));
    }

    private static void picksUntouched() {
        Edge.says("part 7", "If no path is touched, neither makes a commit, and HEAD is not moved.");
        VersionWorks x = Scenes.ends();
        String before = Whole.of(x);
        Due.is("picked onto itself", 0, () -> x.cherryPick(0, TOP, 0, 0));
        Due.is("by favour ours", 0, () -> {
            VersionWorks y = Scenes.ends();
            y.switchTo(0, 3);
            return y.cherryPick(0, SIDE, 0, 1);
        });
        Due.same("nothing is another", "", Whole.difference(before, Whole.of(x)));
        Edge.says("part 7", "It is made also if no path is touched.");
        VersionWorks z = sides(row(1), row(2), row(1));
        z.detach(0, z.branchAt(0, 2));
        Due.is("revert of what is not there: untouched", 0, () -> z.revert(0, z.branchAt(0, 1), 0, 1, 1, 1));
    }

    // ---- rebases

    /** A commit of one path alone; paths 1 to 9 are used for the rows of commits here. */
    private static int one(VersionWorks x, int path, int message) {
        x.write(0, path, message);
        x.add(0, path);
        return x.commit(0, 1, message);
    }

    private static String messages(VersionWorks x, int until) {
        StringBuilder out = new StringBuilder();
        for (int at = x.head(0); at != until && at != NONE; at = x.parent(0, at, 0)) {
            out.append(out.length() == 0 ? "" : " ").append(x.message(0, at));
        }
        return out.toString();
    }

    private static void rebaseLists() {
        Edge.says("part 7", "all ancestors of the head commit that are none of the upstream commit are listed, and the list is "
                + "turned round (the oldest first); of these, to do are, in this order, those that have one parent at most and are "
                + "not there already");
        VersionWorks x = new VersionWorks();
        int root = one(x, 0, 1);
        int a = one(x, 1, 2);
        int b = one(x, 2, 3);
        x.detach(0, root);
        int c = one(x, 3, 4);
        x.detach(0, b);
        x.merge(0, c, 1, 0, 1, 5);
        int merged = x.head(0);
        int d = one(x, 4, 6);
        x.startBranch(0, 5);
        for (int path = 0; path <= 4; path++) {
            x.removeFile(0, path);
        }
        x.addAll(0);
        int onto = one(x, 9, 7);
        x.branch(0, 1, d);
        x.switchTo(0, 1);
        x.branch(0, 2, d);
        Due.is("over", 2, () -> x.rebase(0, a, onto, 0));
        // Of root, a, b, c, the merge and d: root and a are the upstream's, the merge has two parents.
        Due.same("the merge is left out", "6 4 3", messages(x, onto));
        x.reset(0, d, 2);
        Due.is("nothing to do: all are the upstream's", 2, () -> x.rebase(0, d, onto, 0));
        Due.is("HEAD is onto it", onto, () -> x.head(0));
        x.reset(0, d, 2);
        Due.is("upstream without a common ancestor", 2, () -> x.rebase(0, onto, onto, 0));
        Due.same("also a commit without a parent", "6 4 3 2 1", messages(x, onto));
        x.reset(0, d, 2);
        Due.is("the merge as upstream", 2, () -> x.rebase(0, merged, onto, 0));
        Due.same("one alone", "6", messages(x, onto));
    }

    private static void rebaseChanges() {
        Edge.says("part 7", "where that is not the same blob (two that change nothing make the same change)");
        Edge.says("part 7", "a commit is there already, if an ancestor of the upstream commit that is none of the head commit, and "
                + "has one parent at most, makes the same change");
        VersionWorks x = new VersionWorks();
        int root = one(x, 0, 1);
        // A commit that changes nothing: amended to the snapshot of its parent.
        one(x, 1, 2);
        x.removeFile(0, 1);
        x.add(0, 1);
        int nothing = x.amend(0, 1, 2);
        int last = one(x, 2, 3);
        x.branch(0, 1, last);
        x.detach(0, root);
        int up = one(x, 3, 4);
        x.branch(0, 2, up);
        x.switchTo(0, 1);
        Due.is("over", 2, () -> x.rebase(0, up, up, 0));
        Due.same("picked, it touches no path: no commit", "3", messages(x, up));
        x.reset(0, last, 2);
        x.write(0, 15, 1);
        Due.is("onto its own parent", 2, () -> x.rebase(0, root, root, 0));
        Due.is("it is carried, and is there", last, () -> x.head(0));
        Due.is("the commit that changes nothing", nothing, () -> x.parent(0, last, 0));
        // The upstream has a commit that changes nothing, too, and one that makes the same change as the last.
        x.switchTo(0, 2);
        one(x, 5, 5);
        x.removeFile(0, 5);
        x.add(0, 5);
        int none = x.amend(0, 1, 5);
        x.write(0, 2, 3);
        x.add(0, 2);
        int same = x.commit(0, 9, 9);
        x.switchTo(0, 1);
        x.detach(0, last);
        Due.is("both are there already", 2, () -> x.rebase(0, same, none, 0));
        Due.is("nothing was to do", none, () -> x.head(0));
        x.detach(0, last);
        Due.is("the upstream ahead of the same change", 2, () -> x.rebase(0, none, none, 0));
        Due.same("the last is to do", "3", messages(x, none));
        x.detach(0, last);
        Due.is("the change is onto it, but not the upstream's", 2, () -> x.rebase(0, none, same, 0));
        Due.is("picked, it touches no path", same, () -> x.head(0));
        // One that makes the same change, but from another blob, is not there.
        VersionWorks y = new VersionWorks();
        int base = one(y, 0, 1);
        int mine = one(y, 0, 3);
        y.detach(0, base);
        one(y, 0, 2);
        int other = one(y, 0, 3);
        y.detach(0, mine);
        Due.is("from another blob", 2, () -> y.rebase(0, other, base, 0));
        Due.is("it is to do: carried", mine, () -> y.head(0));
    }

    private static void rebaseSteps() {
        Edge.says("part 7", "if the step's commit has just one parent, and this is the head commit, the index and the files are "
                + "carried to its snapshot, and HEAD is moved to it, by the act 7; otherwise it is picked as by a cherry-pick, by "
                + "the act 7 in place of 5");
        VersionWorks x = new VersionWorks();
        int root = one(x, 0, 1);
        int a = one(x, 1, 2);
        int b = one(x, 2, 3);
        x.tick(0, 5);
        int entries = x.reflog(0);
        Due.is("carried", 2, () -> x.rebase(0, root, root, 0));
        Due.is("the same commits", b, () -> x.head(0));
        Due.is("four entries: onto, two steps, the end", entries + 4, () -> x.reflog(0));
        int[] due = {b, b, a, root};
        for (int k = 0; k < 4; k++) {
            int place = k;
            Due.is("the commit", due[k], () -> x.reflogCommit(0, place));
            Due.is("the act", 7, () -> x.reflogAct(0, place));
            Due.is("the clock", 5, () -> x.reflogDate(0, place));
        }
        x.startBranch(0, 1);
        x.removeFile(0, 1);
        x.removeFile(0, 2);
        x.addAll(0);
        int alone = x.commit(0, 2, 4);
        x.detach(0, b);
        // The first step is the root itself, which has no parent: it is picked, though it touches nothing, and b and a too.
        Due.is("a step without a parent is picked", 2, () -> x.rebase(0, alone, alone, 0));
        Due.same("it touches nothing; then a and b are picked", "3 2", messages(x, alone));
        Due.is("by the clock", 5, () -> x.date(0, x.head(0)));
    }

    private static void rebaseEnds() {
        Edge.says("part 7", "When none is to do any more, or none was at all, the rebase is over: if HEAD was on a branch as it "
                + "began, that branch is at the head commit");
        Edge.says("part 7", "if HEAD was detached as it began, it stays detached, and there is no such entry");
        for (boolean detached : new boolean[] {false, true}) {
            VersionWorks x = Scenes.ends();
            if (detached) {
                x.detach(0, TOP);
            }
            int entries = x.reflog(0);
            Due.is("none at all", 2, () -> x.rebase(0, TOP, ROOT, 0));
            Due.is("HEAD", ROOT, () -> x.head(0));
            Due.is("its branch", detached ? NONE : 2, () -> x.headBranch(0));
            Due.is("the branch", detached ? TOP : ROOT, () -> x.branchAt(0, 2));
            Due.is("the entries", entries + (detached ? 1 : 2), () -> x.reflog(0));
            Due.is("no operation", 0, () -> x.operation(0));
            Due.is("the files are carried", 5, () -> x.fileLines(0, 0));
            Due.is("a file of no snapshot stays", 1, () -> x.fileLines(0, 11));
        }
        VersionWorks y = Scenes.ends();
        int entries = y.reflog(0);
        Due.is("where HEAD is, nothing to do", 2, () -> y.rebase(0, TOP, TOP, 0));
        Due.is("two entries", entries + 2, () -> y.reflog(0));
        Due.is("the same commit", TOP, () -> y.head(0));
    }

    /** While HEAD is detached by a rebase, the other repository may push to the branch on which it began. */
    private static void rebaseBranches() {
        Edge.says("part 8", "(A branch on which a rebase there began, and which its HEAD has left, is pushed to as any other one.)");
        Edge.says("part 7", "that branch is at the head commit, and is there, whatever it was meanwhile, HEAD is on it, and another "
                + "such entry, with the head commit, is put in front of the reflog");
        for (boolean abort : new boolean[] {false, true}) {
            VersionWorks x = Scenes.rebasing();
            int began = x.branchAt(0, 3);
            Due.is("pushed to, though the rebase began on it", ROOT, () -> x.push(1, 0, 3, 1, 240));
            Due.is("it is there", ROOT, () -> x.branchAt(0, 3));
            Due.state("it cannot be deleted from there", () -> x.pushDelete(1, 3));
            if (abort) {
                Due.is("aborted", began, () -> x.abort(0));
                Due.is("at the commit at which it was as the rebase began", began, () -> x.branchAt(0, 3));
            } else {
                x.write(0, 0, 9);
                x.addAll(0);
                Due.is("proceeds to the end", 2, () -> x.proceed(0));
                Due.is("at the head commit", x.head(0), () -> x.branchAt(0, 3));
                Due.is("such an entry", x.head(0), () -> x.reflogCommit(0, 0));
            }
            Due.is("HEAD is on it", 3, () -> x.headBranch(0));
            Due.is("by the act 7", 7, () -> x.reflogAct(0, 0));
        }
    }

    /** What a rebase has done to long files at the first and the last path is undone, as its last step is refused. */
    private static void undoneRebase() {
        Edge.says("part 7", "If something is in the way, or cannot be carried, in any step, the method throws.");
        Edge.Scene scene = () -> {
            VersionWorks x = new VersionWorks();
            int[] sixty = new int[60];
            for (int k = 0; k < 60; k++) {
                sixty[k] = 1 + k;
            }
            put(x, 0, sixty);
            put(x, 15, sixty);
            int root = commit(x, 0);
            for (int k = 0; k < 60; k++) {
                sixty[k] = 99 - k;
            }
            put(x, 0, sixty);
            put(x, 15, sixty);
            x.branch(0, 1, commit(x, 1));
            x.reset(0, root, 2);
            one(x, 1, 2);
            one(x, 2, 3);
            x.removeFile(0, 2);
            x.add(0, 2);
            x.commit(0, 1, 4);
            x.tick(0, 5);
            x.write(0, 2, 9);
            return x;
        };
        Edge.refused("a file in the way of the second step", Due.STATE, scene,
                x -> x.rebase(0, x.branchAt(0, 1), x.branchAt(0, 1), 0));
        VersionWorks x = scene.make();
        x.removeFile(0, 2);
        Due.is("without it", 2, () -> x.rebase(0, x.branchAt(0, 1), x.branchAt(0, 1), 0));
        Due.is("the last line of the last path", 40, () -> x.fileLine(0, 15, 59));
    }

    private static void proceeds() {
        Edge.says("part 7", "if the index tells the head snapshot, and the operation is no merge, no commit is made; otherwise the "
                + "snapshot of the index is stored, and the commit that the operation would have made (the date is the clock), and "
                + "HEAD is moved to it");
        Edge.Scene[] scenes = {Scenes::stopped, Scenes::picking, Scenes::reverting};
        for (int k = 0; k < 3; k++) {
            VersionWorks x = scenes[k].make();
            int operation = x.operation(0);
            for (int p = 0; p < 16; p++) {
                x.unstage(0, p);
            }
            x.tick(0, 5);
            int entries = x.reflog(0);
            Due.is("the index tells the head snapshot", 2, () -> x.proceed(0));
            Due.is("a merge makes a commit all the same", entries + (operation == 1 ? 1 : 0), () -> x.reflog(0));
            Due.yes("HEAD is moved by a merge alone", (x.head(0) == TOP) == (operation != 1));
            Due.is("over", 0, () -> x.operation(0));
            VersionWorks y = scenes[k].make();
            y.write(0, 0, 9);
            y.addAll(0);
            y.tick(0, 5);
            y.proceed(0);
            int[][] due = {{6, 66, SIDE, 4}, {4, 44, NONE, 5}, {3, 33, NONE, 6}};
            int[] is = due[operation - 1];
            Due.is("the author", is[0], () -> y.author(0, y.head(0)));
            Due.is("the message", is[1], () -> y.message(0, y.head(0)));
            Due.is("the first parent", TOP, () -> y.parent(0, y.head(0), 0));
            Due.is("the second parent", is[2], () -> y.parent(0, y.head(0), 1));
            Due.is("the act", is[3], () -> y.reflogAct(0, 0));
            Due.is("the date is the clock", 5, () -> y.date(0, y.head(0)));
            Due.is("the file is the index", 9, () -> y.blobLine(0, y.blobAt(0, y.head(0), 0), 0));
        }
        Edge.says("part 7", "a rebase goes on with the commits that are still to do");
        VersionWorks z = Scenes.rebasing();
        z.write(0, 0, 9);
        z.addAll(0);
        Due.is("over", 2, () -> z.proceed(0));
        Due.same("all three", "8 7 44", messages(z, TOP));
        Due.is("the author of the commit picked", 4, () -> z.author(0, z.parent(0, z.parent(0, z.head(0), 0), 0)));
        Edge.says("part 7", "A step that stops at conflicts stops the rebase; the commits behind it are still to do.");
        VersionWorks w = Scenes.rebasing();
        for (int p = 0; p < 16; p++) {
            w.unstage(0, p);
        }
        w.removeFile(0, 8);
        Due.is("without a commit of the step; the next one stops", 3, () -> w.proceed(0));
        Due.is("one is to do", 1, () -> w.todo(0));
        Due.is("at the next", 7, () -> w.message(0, w.operationCommit(0)));
        Due.is("HEAD is onto it", TOP, () -> w.head(0));
    }

    private static void skips() {
        Edge.says("part 7", "To skip a step of a rebase: the index and the files are forced to the head snapshot; then the rebase "
                + "goes on in the same way.");
        VersionWorks x = Scenes.rebasing();
        x.write(0, 0, 7);
        x.add(0, 0);
        x.write(0, 15, 7);
        x.write(0, 1, 7);
        Due.is("the next stops, as path 8 is not there", 3, () -> x.skip(0));
        Due.same("forced", "1 2 3 4 5 9", lines(x, 0));
        Due.same("forced at a conflict", "1 2 3 4 5 9", lines(x, 15));
        Due.same("a file of no snapshot stays", "7", lines(x, 1));
        Due.is("one to do", 1, () -> x.todo(0));
        Due.is("the last stops, too", 3, () -> x.skip(0));
        Due.is("none to do", 0, () -> x.todo(0));
        Due.is("over by skipping the last", 2, () -> x.skip(0));
        Due.is("nothing was picked", TOP, () -> x.head(0));
        Due.is("the branch", TOP, () -> x.branchAt(0, 3));
        Due.is("HEAD is on it", 3, () -> x.headBranch(0));
        Due.state("no rebase any more", () -> x.skip(0));
    }

    private static void aborts() {
        Edge.says("part 7", "at each path at which the index does not have what the head snapshot has (also by a conflict), the "
                + "index has it from then on, and the file its lines, or there is no file");
        Edge.Scene[] scenes = {Scenes::stopped, Scenes::picking};
        for (Edge.Scene scene : scenes) {
            VersionWorks x = scene.make();
            int objects = x.objects(0);
            x.add(0, 0);
            x.write(0, 0, 5);
            x.write(0, 7, 5);
            x.write(0, 1, 5);
            x.add(0, 1);
            int entries = x.reflog(0);
            Due.is("the head commit", TOP, () -> x.abort(0));
            Due.same("an entry that is another", "1 2 3 4 5 9", lines(x, 0));
            Due.same("a conflict", "1 2 3 4 5 9", lines(x, 15));
            Due.same("the index as the head: the file stays", "5", lines(x, 7));
            Due.same("added: no file", "nothing", lines(x, 8));
            Due.same("added meanwhile: no file", "nothing", lines(x, 1));
            Due.same("not tracked: the file stays", "4", lines(x, 11));
            for (int p = 0; p < 16; p++) {
                int path = p;
                Due.is("the index", 0, () -> x.staged(0, path));
            }
            Due.is("no entry", entries, () -> x.reflog(0));
            Due.is("over", 0, () -> x.operation(0));
            Edge.says("part 7", "Objects that were stored stay.");
            Due.yes("they stay", x.objects(0) > objects);
        }
        Edge.says("part 7", "A rebase: HEAD is where it was as the rebase began: on its branch, which is at the commit at which it was "
                + "then, and is there, whatever it was meanwhile, or detached; an entry with that commit, the act 7 and the clock is "
                + "put in front of the reflog; the index and the files are forced to the snapshot of that commit");
        for (boolean detached : new boolean[] {false, true}) {
            VersionWorks x = Scenes.ends();
            if (detached) {
                x.detach(0, SIDE);
            } else {
                x.switchTo(0, 3);
            }
            x.rebase(0, TOP, TOP, 0);
            x.write(0, 7, 5);
            x.write(0, 1, 5);
            x.tick(0, 5);
            int entries = x.reflog(0);
            Due.is("back", SIDE, () -> x.abort(0));
            Due.is("HEAD", detached ? NONE : 3, () -> x.headBranch(0));
            Due.is("one entry", entries + 1, () -> x.reflog(0));
            Due.is("its commit", SIDE, () -> x.reflogCommit(0, 0));
            Due.is("its act", 7, () -> x.reflogAct(0, 0));
            Due.is("its date", 5, () -> x.reflogDate(0, 0));
            Due.same("forced", "1 2 3 4 5 8", lines(x, 0));
            Due.same("tracked, not in the snapshot", "nothing", lines(x, 7));
            Due.same("a file of no snapshot stays", "5", lines(x, 1));
        }
    }

    private static void mergedFiles() {
        Edge.says("mergeFile", "with the lines of the other one, if ours or theirs is none; otherwise with the merged row");
        VersionWorks x = sides(row(1), NOTHING, row(3));
        x.merge(0, x.branchAt(0, 2), 0, 0, 1, 1);
        for (int favour = 0; favour <= 2; favour++) {
            int f = favour;
            x.write(0, 0, 7);
            Due.is("ours is none", 0, () -> x.mergeFile(0, 0, f));
            Due.same("theirs, whatever the favour is", "3", lines(x, 0));
        }
        VersionWorks y = sides(row(1), row(), NOTHING);
        y.merge(0, y.branchAt(0, 2), 0, 0, 1, 1);
        y.removeFile(0, 0);
        Due.is("theirs is none", 0, () -> y.mergeFile(0, 0, 2));
        Due.same("ours, without lines", "", lines(y, 0));
        VersionWorks z = sides(NOTHING, row(1), row(2));
        z.merge(0, z.branchAt(0, 2), 0, 0, 1, 1);
        Due.is("no base: a row without lines", 1, () -> z.mergeFile(0, 0, 1));
        Due.same("ours", "1", lines(z, 0));
        Due.is("marks", 1, () -> z.mergeFile(0, 0, 0));
        Due.same("marks", "100 1 101 2 102", lines(z, 0));
        VersionWorks w = sides(row(1), row(9, 1, 7), row(8, 1, 6));
        w.merge(0, w.branchAt(0, 2), 0, 0, 1, 1);
        Due.is("two stretches clash", 2, () -> w.mergeFile(0, 0, 2));
        Due.same("theirs", "8 1 6", lines(w, 0));
        Edge.says("part 7", "there is a head commit, the commit of the operation is present, and, if it is a rebase, HEAD is detached "
                + "and all that is still to do is present");
        VersionWorks v = Scenes.rebasing();
        v.expireReflog(0, 0);
        v.collect(0, 0);
        Due.is("behind a collection", 1, () -> Edge.yes(v.isSound(0, 7)));
    }
}
