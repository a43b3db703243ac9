/** The sentences of part 6 of the terms that name a boundary: differences, hunks, renames, origins, histories of paths. */
final class EdgesOfTerms6 {
    private static final int NONE = VersionWorks.NONE;

    public static void main(String[] args) {
        steps();
        rowsThatEnd();
        contexts();
        hunks();
        likenesses();
        renames();
        renamesOneByOne();
        renamesOfEachPath();
        origins();
        originsOverRenames();
        originsOfMerges();
        histories();
        historiesOfMerges();
        sound();
        Edge.end("EdgesOfTerms6");
    }

    private static int blob(VersionWorks x, long digits) {
        x.write(0, 15, digits);
        return x.add(0, 15);
    }

    private static int commit(VersionWorks x, int message) {
        x.addAll(0);
        return x.commit(0, 1, message);
    }

    /** For each old line the place of the new one, or -. */
    private static String pairs(long older, long newer) {
        VersionWorks x = new VersionWorks();
        int from = blob(x, older);
        int to = blob(x, newer);
        StringBuilder out = new StringBuilder();
        for (int k = 0; k < x.blobLines(0, from); k++) {
            int place = x.diffPair(0, from, to, k);
            out.append(k == 0 ? "" : " ").append(place == NONE ? "-" : place);
        }
        return out.toString();
    }

    private static void steps() {
        Edge.says("part 6", "is no less than that of what is left of the old row and of what is left without that new line, the "
                + "old line is removed, and passed; otherwise the new line is added, and passed");
        Due.same("no less: as much", "- 0", pairs(12, 21));
        Due.same("no less: as much", "- -", pairs(12, 34));
        Due.same("less: the new line is added", "1 2", pairs(12, 312));
        Due.same("more: the old line is removed", "- 0 1", pairs(312, 12));
        Due.same("the first of two that are the same", "0", pairs(1, 11));
        Due.same("the first of two that are the same", "0 -", pairs(11, 1));
        Due.same("the first that is the same, then the next is removed", "- 0 - 1 2", pairs(21123, 123));
        Due.same("the same are a pair at once", "0 1 3", pairs(112, 1132));
        Due.same("as much: 1 goes, though it could be paired", "- 0 2 -", pairs(1234, 2131));
        Edge.says("part 6", "if the next old line and the next new line are the same, the two are a pair, and both are passed");
        Due.same("all", "0 1 2 3 4 5 6 7 8", pairs(123456789, 123456789));
        Edge.says("part 6", "So each old line is in a pair or removed, each new line in a pair or added, and there are as many "
                + "pairs as the longest common row");
        VersionWorks x = new VersionWorks();
        Due.is("removed 1 and 3, added 3 and 9", 4, () -> x.diffSize(0, blob(x, 1232), blob(x, 3229)));
    }

    private static void rowsThatEnd() {
        Edge.says("part 6", "When one row has no line left, the lines left of the other one are removed, or added");
        Due.same("removed at the end", "0 1 - -", pairs(1234, 12));
        Due.same("added at the end", "0 1", pairs(12, 1234));
        Due.same("to no lines", "- -", pairs(12, 0));
        Due.same("from no lines", "", pairs(0, 12));
        VersionWorks x = new VersionWorks();
        int empty = blob(x, 0);
        int some = blob(x, 12);
        Due.is("none and none", 0, () -> x.diffSize(0, empty, empty));
        Due.is("NONE and no lines", 0, () -> x.diffSize(0, NONE, empty));
        Due.is("NONE and NONE", 0, () -> x.diffSize(0, NONE, NONE));
        Due.is("NONE and some", 2, () -> x.diffSize(0, NONE, some));
        Due.is("a hunk of added lines alone", 0, () -> x.hunkLength(0, empty, some, 0, 0, false));
        Due.is("no hunk of nothing", 0, () -> x.hunks(0, empty, empty, 9));
    }

    /** The hunks of a difference: start and length in the old row, start and length in the new one. */
    private static String hunks(int[] older, int[] newer, int context) {
        VersionWorks x = new VersionWorks();
        int from = blob(x, older);
        int to = blob(x, newer);
        StringBuilder out = new StringBuilder();
        int count = x.hunks(0, from, to, context);
        for (int k = 0; k < count; k++) {
            out.append(k == 0 ? "" : ", ").append(x.hunkStart(0, from, to, context, k, false)).append("+")
                    .append(x.hunkLength(0, from, to, context, k, false)).append(" ")
                    .append(x.hunkStart(0, from, to, context, k, true)).append("+")
                    .append(x.hunkLength(0, from, to, context, k, true));
        }
        Due.index("behind the last hunk", () -> x.hunkStart(0, from, to, context, count, true));
        Due.index("behind the last hunk", () -> x.hunkLength(0, from, to, context, count, false));
        return out.toString();
    }

    private static int blob(VersionWorks x, int[] lines) {
        x.write(0, 15, 0);
        for (int k = 0; k < lines.length; k++) {
            x.insertLine(0, 15, k, lines[k]);
        }
        return x.add(0, 15);
    }

    /** Lines 1 to n, with others, 90 and so on, at some places. */
    private static int[] row(int n, int... places) {
        int[] out = new int[n];
        for (int k = 0; k < n; k++) {
            out[k] = k + 1;
        }
        for (int k = 0; k < places.length; k++) {
            out[places[k]] = 90 + k;
        }
        return out;
    }

    private static void contexts() {
        Edge.says("part 6", "a step is shown, if it is no pair, or if it is at most c steps away from one that is none");
        Due.same("0 steps away", "10+1 10+1", hunks(row(21), row(21, 10), 0));
        Due.same("1 step away", "9+3 9+3", hunks(row(21), row(21, 10), 1));
        Due.same("9 steps away", "1+19 1+19", hunks(row(21), row(21, 10), 9));
        Due.same("to the front and to the end", "0+19 0+19", hunks(row(19), row(19, 9), 9));
        Due.same("no further than the front and the end", "0+17 0+17", hunks(row(17), row(17, 8), 9));
        Due.same("at the front", "0+4 0+4", hunks(row(21), row(21, 0), 3));
        Due.same("at the end", "17+4 17+4", hunks(row(21), row(21, 20), 3));
        Due.same("removed at the front", "0+4 0+3", hunks(row(9), new int[] {2, 3, 4, 5, 6, 7, 8, 9}, 3));
        Due.same("added at the end", "6+3 6+4", hunks(row(9), row(10), 3));
        Due.same("no pair at all", "0+3 0+3", hunks(new int[] {1, 2, 3}, new int[] {4, 5, 6}, 0));
        Due.same("the same rows have none", "", hunks(row(9), row(9), 9));
        // Removed and added are two steps: behind them the second pair is two steps away from the added one.
        Due.same("steps, not lines", "4+3 4+3", hunks(row(9), row(9, 5), 1));
    }

    private static void hunks() {
        Edge.says("part 6", "A hunk is a longest run of shown steps, one behind another. It starts, in the old row and in the new "
                + "one, behind the lines that were passed ahead of its first step, and has there as many lines as its steps pass");
        // Six pairs lie between the two changes, then seven.
        Due.same("two pairs are not shown", "2+1 2+1, 9+1 9+1", hunks(row(12), row(12, 2, 9), 0));
        Due.same("two pairs are not shown", "0+5 0+5, 7+5 7+5", hunks(row(12), row(12, 2, 9), 2));
        Due.same("all are shown", "0+12 0+12", hunks(row(12), row(12, 2, 9), 3));
        Due.same("one pair is not shown", "0+6 0+6, 7+6 7+6", hunks(row(13), row(13, 2, 10), 3));
        Due.same("all are shown", "0+13 0+13", hunks(row(13), row(13, 2, 10), 4));
        // Line 3 removed and 88 added behind line 8: the starts go apart.
        int[] newer = {1, 2, 4, 5, 6, 7, 8, 88, 9};
        Due.same("removed, then added", "2+1 2+0, 8+0 7+1", hunks(row(9), newer, 0));
        Due.same("with one line around", "1+3 1+2, 7+2 6+3", hunks(row(9), newer, 1));
        // 30 lines each, every other one another: 15 hunks without context, one with it.
        int[] other = row(30);
        for (int k = 0; k < 30; k += 2) {
            other[k] = 60 + k;
        }
        Due.same("many hunks", 15, hunks(row(30), other, 0).split(",").length);
        Due.same("one hunk", "0+30 0+30", hunks(row(30), other, 1));
        int[] all = new int[60];
        java.util.Arrays.fill(all, 99);
        Due.same("60 lines removed, 60 added", "0+60 0+60", hunks(row(60), all, 9));
        Due.same("60 lines added", "0+0 0+60", hunks(new int[0], all, 9));
        Due.same("60 lines removed", "0+60 0+0", hunks(all, new int[0], 0));
    }

    private static int likeness(long one, long other) {
        VersionWorks x = new VersionWorks();
        return x.likeness(0, blob(x, one), blob(x, other));
    }

    private static void likenesses() {
        Edge.says("part 6", "The likeness of two blobs is 200 times their longest common row, divided by how many lines both have "
                + "together; it is 100, if neither has any");
        Due.same("neither has any", 100, likeness(0, 0));
        Due.same("one has none", 0, likeness(1, 0));
        Due.same("the other has none", 0, likeness(0, 123));
        Due.same("the same", 100, likeness(123, 123));
        Due.same("nothing alike", 0, likeness(123, 456));
        Edge.says("part 0", "a quotient is rounded down");
        Due.same("600 by 7 is 85", 85, likeness(123, 1234));
        Due.same("200 by 3 is 66", 66, likeness(12, 1));
        Due.same("400 by 6 is 66", 66, likeness(123, 129));
        Due.same("3400 by 35 is 97", 97, likeness(12345678912345678L, 123456789123456789L));
    }

    // ---- renames

    private static void renames() {
        Edge.says("part 6", "a path is lost, if the snapshot of the first has a blob of it and that of the second has none; it is "
                + "new, if it is the other way round");
        VersionWorks x = new VersionWorks();
        x.write(0, 0, 1234);
        x.write(0, 15, 5678);
        x.write(0, 1, 1234);
        int from = commit(x, 1);
        x.moveFile(0, 15, 3);
        x.removeFile(0, 0);
        x.write(0, 0, 5678);
        x.write(0, 2, 4444);
        int to = commit(x, 2);
        Due.is("renamed", 15, () -> x.renamedFrom(0, from, to, 3, 100));
        Due.is("a path that both have is not new", NONE, () -> x.renamedFrom(0, from, to, 0, 1));
        Due.is("a path that stays is not lost", NONE, () -> x.renamedFrom(0, from, to, 1, 1));
        Due.is("a new one with nothing alike", NONE, () -> x.renamedFrom(0, from, to, 2, 1));
        Due.is("a lost path is not new", NONE, () -> x.renamedFrom(0, from, to, 15, 1));
        Due.is("a path that never was", NONE, () -> x.renamedFrom(0, from, to, 9, 1));
        Due.is("of one commit to itself", NONE, () -> x.renamedFrom(0, from, from, 0, 1));
        Edge.says("part 6", "the two whose blobs have the greatest likeness are a rename, if that is no less than the limit");
        VersionWorks y = new VersionWorks();
        y.write(0, 0, 123);
        int one = commit(y, 1);
        y.removeFile(0, 0);
        y.write(0, 5, 1234);
        int two = commit(y, 2);
        Due.is("85 is no less than 85", 0, () -> y.renamedFrom(0, one, two, 5, 85));
        Due.is("85 is less than 86", NONE, () -> y.renamedFrom(0, one, two, 5, 86));
        Due.is("no less than 1", 0, () -> y.renamedFrom(0, one, two, 5, 1));
        VersionWorks z = new VersionWorks();
        z.write(0, 0, 0);
        int empty = commit(z, 1);
        z.moveFile(0, 0, 15);
        int moved = commit(z, 2);
        Due.is("without lines as alike as can be", 0, () -> z.renamedFrom(0, empty, moved, 15, 100));
        z.write(0, 15, 1);
        int written = commit(z, 3);
        Due.is("some lines to none: not alike", NONE, () -> z.renamedFrom(0, written, empty, 0, 1));
    }

    private static void renamesOneByOne() {
        Edge.says("part 6", "Again and again, of all lost and new paths that are in no rename yet");
        Edge.says("part 6", "of several such two those with the lowest new path, then with the lowest lost path");
        VersionWorks x = new VersionWorks();
        x.write(0, 1, 1234);
        x.write(0, 2, 1234);
        x.write(0, 3, 1234);
        int from = commit(x, 1);
        for (int path = 1; path <= 3; path++) {
            x.moveFile(0, path, 16 - path);
        }
        int to = commit(x, 2);
        Due.is("the lowest with the lowest", 1, () -> x.renamedFrom(0, from, to, 13, 50));
        Due.is("then the next", 2, () -> x.renamedFrom(0, from, to, 14, 50));
        Due.is("then the last", 3, () -> x.renamedFrom(0, from, to, 15, 50));
        // Path 4 is more alike to path 9 than path 3 is; path 3 is left for path 8, as far as the limit goes.
        VersionWorks y = new VersionWorks();
        y.write(0, 3, 12345);
        y.write(0, 4, 123456);
        int first = commit(y, 1);
        y.removeFile(0, 3);
        y.removeFile(0, 4);
        y.write(0, 8, 12344);
        y.write(0, 9, 123456);
        int second = commit(y, 2);
        Due.is("the most alike first", 4, () -> y.renamedFrom(0, first, second, 9, 1));
        Due.is("what is left: 200 * 4 / 10", 3, () -> y.renamedFrom(0, first, second, 8, 80));
        Due.is("less than the limit", NONE, () -> y.renamedFrom(0, first, second, 8, 81));
        Due.is("whatever the limit is", 4, () -> y.renamedFrom(0, first, second, 9, 81));
        // Three new paths for one lost: two are left over.
        VersionWorks z = new VersionWorks();
        z.write(0, 7, 11);
        int one = commit(z, 1);
        z.removeFile(0, 7);
        z.write(0, 0, 11);
        z.write(0, 6, 11);
        z.write(0, 15, 11);
        int two = commit(z, 2);
        Due.is("the lowest new path", 7, () -> z.renamedFrom(0, one, two, 0, 100));
        Due.is("in a rename already", NONE, () -> z.renamedFrom(0, one, two, 6, 1));
        Due.is("in a rename already", NONE, () -> z.renamedFrom(0, one, two, 15, 1));
        Due.is("of three lost the lowest", 0, () -> z.renamedFrom(0, two, one, 7, 100));
    }

    // ---- origins

    private static String origin(VersionWorks x, int commit, int path, int place, int limit) {
        return x.blame(0, commit, path, place, limit) + " " + x.blamePath(0, commit, path, place, limit) + " "
                + x.blamePlace(0, commit, path, place, limit);
    }

    private static void renamesOfEachPath() {
        Edge.says("part 6", "a path is lost, if the snapshot of the first has a blob of it and that of the second has none; it is "
                + "new, if it is the other way round");
        for (int lost = 0; lost < 16; lost++) {
            for (int path = 0; path < 16; path++) {
                int other = path;
                VersionWorks x = new VersionWorks();
                x.write(0, lost, 12345);
                int first = commit(x, 1);
                x.removeFile(0, lost);
                x.write(0, path, 12346);
                int second = commit(x, 2);
                int due = path == lost ? NONE : lost;
                Due.is("from " + lost + " to " + path, due, () -> x.renamedFrom(0, first, second, other, 80));
                Due.is("not from " + lost + " to " + path, NONE, () -> x.renamedFrom(0, first, second, other, 81));
                int origin = path == lost ? path : lost;
                Due.is("the origin at " + path, origin, () -> x.blamePath(0, second, other, 0, 80));
            }
        }
    }

    private static void origins() {
        Edge.says("part 6", "otherwise it is the line itself, at that path, in that commit");
        VersionWorks x = new VersionWorks();
        x.write(0, 0, 123);
        int one = commit(x, 1);
        x.write(0, 0, 91283);
        int two = commit(x, 2);
        Due.same("in a commit without a parent", one + " 0 2", origin(x, one, 0, 2, 50));
        Due.same("added at the front", two + " 0 0", origin(x, two, 0, 0, 50));
        Due.same("added between", two + " 0 3", origin(x, two, 0, 3, 50));
        Due.same("the first line that was there", one + " 0 0", origin(x, two, 0, 1, 50));
        Due.same("the last line that was there", one + " 0 2", origin(x, two, 0, 4, 50));
        Due.index("behind the last line", () -> x.blame(0, two, 0, 5, 50));
        Due.index("behind the last line", () -> x.blamePath(0, two, 0, 5, 50));
        Due.index("behind the last line", () -> x.blamePlace(0, two, 0, 5, 50));
        x.write(0, 4, 1);
        int three = commit(x, 3);
        Due.same("over a commit that has the same", one + " 0 2", origin(x, three, 0, 4, 0));
        Due.same("a path of its own", three + " 4 0", origin(x, three, 4, 0, 100));
    }

    private static void originsOverRenames() {
        Edge.says("part 6", "if its snapshot has a blob of that path, or, if it has none and the limit is not 0, of the path from "
                + "which that one was renamed from the parent to the commit, with the limit, if it was");
        VersionWorks x = new VersionWorks();
        x.write(0, 0, 1234);
        int one = commit(x, 1);
        x.moveFile(0, 0, 5);
        x.insertLine(0, 5, 0, 9);
        int two = commit(x, 2);
        Due.same("renamed: 200 * 4 / 9 is 88", one + " 0 3", origin(x, two, 5, 4, 88));
        Due.same("less than the limit", two + " 5 4", origin(x, two, 5, 4, 89));
        Due.same("the least limit", one + " 0 0", origin(x, two, 5, 1, 1));
        Due.same("limit 0: no renames", two + " 5 1", origin(x, two, 5, 1, 0));
        Due.same("a line that is in no pair", two + " 5 0", origin(x, two, 5, 0, 50));
        // The parent has a blob of that path: no rename is looked at, though the other path is lost and alike.
        VersionWorks y = new VersionWorks();
        y.write(0, 0, 1234);
        y.write(0, 5, 99);
        int first = commit(y, 1);
        y.removeFile(0, 0);
        y.write(0, 5, 1234);
        int second = commit(y, 2);
        Due.same("a blob of that path", second + " 5 0", origin(y, second, 5, 0, 1));
        Due.yes("first", first >= 0);
        // A file without lines is a blob of that path, too.
        VersionWorks z = new VersionWorks();
        z.write(0, 0, 1234);
        z.write(0, 5, 0);
        commit(z, 1);
        z.removeFile(0, 0);
        z.write(0, 5, 1234);
        int last = commit(z, 2);
        Due.same("a blob without lines", last + " 5 0", origin(z, last, 5, 0, 1));
    }

    private static void originsOfMerges() {
        Edge.says("part 6", "in the first parent that knows it, at the path of that blob there");
        VersionWorks x = new VersionWorks();
        x.write(0, 0, 12345);
        int root = commit(x, 1);
        x.write(0, 0, 123459);
        int ours = commit(x, 2);
        x.detach(0, root);
        x.write(0, 0, 812345);
        int theirs = commit(x, 3);
        x.merge(0, ours, 1, 0, 1, 4);
        int merged = x.head(0);
        Due.same("the first parent knows it", theirs + " 0 0", origin(x, merged, 0, 0, 50));
        Due.same("the second alone knows it", ours + " 0 5", origin(x, merged, 0, 6, 50));
        Due.same("both know it: it goes by the first", root + " 0 2", origin(x, merged, 0, 3, 50));
        // Both add the same line: it is that of the first parent.
        VersionWorks y = new VersionWorks();
        y.write(0, 0, 12);
        int base = commit(y, 1);
        y.write(0, 0, 123);
        int one = commit(y, 2);
        y.detach(0, base);
        y.write(0, 0, 123);
        y.addAll(0);
        int two = y.commit(0, 5, 5);
        y.merge(0, one, 1, 0, 1, 3);
        Due.same("the first parent", two + " 0 2", origin(y, y.head(0), 0, 2, 50));
        y.detach(0, one);
        y.merge(0, two, 1, 0, 1, 3);
        Due.same("the first parent", one + " 0 2", origin(y, y.head(0), 0, 2, 50));
    }

    // ---- histories of paths

    private static String history(VersionWorks x, int commit, int path) {
        int count = x.pathLog(0, commit, path);
        StringBuilder out = new StringBuilder();
        for (int k = 0; k < count; k++) {
            out.append(k == 0 ? "" : " ").append(x.pathLogAt(0, commit, path, k));
        }
        Due.index("behind the last", () -> x.pathLogAt(0, commit, path, count));
        Due.index("ahead of the first", () -> x.pathLogAt(0, commit, path, -1));
        return out.toString();
    }

    private static void histories() {
        Edge.says("part 6", "and the commit belongs to the history, but not if it has no parents and no blob of the path");
        VersionWorks x = new VersionWorks();
        x.write(0, 9, 9);
        int root = commit(x, 1);
        x.write(0, 0, 1);
        int one = commit(x, 2);
        x.write(0, 9, 8);
        int two = commit(x, 3);
        x.removeFile(0, 0);
        int three = commit(x, 4);
        x.write(0, 0, 1);
        int four = commit(x, 5);
        Due.same("a root with the path", "" + root, history(x, root, 9));
        Due.same("a root without the path", "", history(x, root, 0));
        Due.same("added", "" + one, history(x, one, 0));
        Due.same("the same as its parent", "" + one, history(x, two, 0));
        Due.same("gone", three + " " + one, history(x, three, 0));
        Due.same("there again", four + " " + three + " " + one, history(x, four, 0));
        Due.same("a path that never was", "", history(x, four, 15));
        Due.same("the other path", two + " " + root, history(x, four, 9));
    }

    private static void historiesOfMerges() {
        Edge.says("part 6", "if one of its parents has the same at the path (the same blob, or both none), the first such parent "
                + "alone is come to; otherwise all its parents are");
        VersionWorks x = new VersionWorks();
        x.write(0, 0, 12345);
        int root = commit(x, 1);
        x.write(0, 0, 123459);
        int ours = commit(x, 2);
        x.detach(0, root);
        x.write(0, 0, 812345);
        int theirs = commit(x, 3);
        x.merge(0, ours, 1, 0, 1, 4);
        int both = x.head(0);
        Due.same("as none of the parents", both + " " + theirs + " " + ours + " " + root, history(x, both, 0));
        x.detach(0, theirs);
        x.merge(0, ours, 1, 0, 1, 5);
        x.detach(0, root);
        x.write(0, 4, 4);
        int other = commit(x, 6);
        x.merge(0, ours, 1, 0, 1, 7);
        Due.same("as the second parent alone", ours + " " + root, history(x, x.head(0), 0));
        Due.same("as the first parent, of the other path", "" + other, history(x, x.head(0), 4));
        Due.same("both have none: by the first", "", history(x, x.head(0), 8));
        // Both parents have the same blob, made on two sides: the first one alone is come to.
        VersionWorks y = new VersionWorks();
        y.write(0, 0, 12);
        int base = commit(y, 1);
        y.write(0, 0, 123);
        int one = commit(y, 2);
        y.detach(0, base);
        y.write(0, 0, 123);
        y.addAll(0);
        int two = y.commit(0, 5, 5);
        y.merge(0, one, 1, 0, 1, 3);
        Due.same("the first such parent alone", two + " " + base, history(y, y.head(0), 0));
        // A merge of two sides, of which one never had the path: the side that has none is come to by it, if it has none.
        VersionWorks z = new VersionWorks();
        z.write(0, 0, 1);
        int first = commit(z, 1);
        z.startBranch(0, 1);
        z.removeFile(0, 0);
        z.write(0, 4, 4);
        z.addAll(0);
        int apart = z.commit(0, 1, 2);
        z.merge(0, first, 1, 0, 1, 3);
        Due.same("as its second parent", "" + first, history(z, z.head(0), 0));
        Due.same("as its first parent", "" + apart, history(z, z.head(0), 4));
    }

    private static void sound() {
        Edge.says("part 6", "the origin (with the limit 50) of the first line of each blob of the head snapshot that has lines is a "
                + "line that is the same, in an ancestor of the head commit");
        Due.is("without a head commit", 1, () -> Edge.yes(Scenes.unborn().isSound(0, 6)));
        VersionWorks x = new VersionWorks();
        x.write(0, 0, 0);
        commit(x, 1);
        Due.is("a blob without lines", 1, () -> Edge.yes(x.isSound(0, 6)));
    }
}
