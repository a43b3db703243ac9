/**
 * States of an object from which the tests of boundaries begin. Both repositories come to the same, so a call can be
 * made in either one.
 */
final class Scenes {
    private static final int NONE = VersionWorks.NONE;

    /** The numbers that objects have in ends(), and in all scenes that are made out of it. */
    static final int GONE = 0;
    static final int BLOB = 1;
    static final int ROOT;
    static final int TOP;
    static final int SIDE;
    static final int TAGGED;
    static final int TREE;
    static final int COUNT;

    static {
        VersionWorks x = ends();
        ROOT = x.branchAt(0, 0);
        TOP = x.branchAt(0, 2);
        SIDE = x.branchAt(0, 3);
        TAGGED = x.tagAt(0, 0);
        TREE = x.rootTree(0, ROOT);
        COUNT = x.objects(0);
        if (x.kind(0, GONE) != NONE || x.kind(0, BLOB) != 0 || x.kind(0, TAGGED) != 3 || COUNT != x.objects(1)) {
            throw new RuntimeException("the scene is not as it was thought");
        }
    }

    private Scenes() {
    }

    static VersionWorks empty() {
        return new VersionWorks();
    }

    static int commit(VersionWorks x, int r, int path, long digits, int message) {
        x.write(r, path, digits);
        x.add(r, path);
        return x.commit(r, 1, message);
    }

    /**
     * HEAD is on branch 2, at TOP; branches 0 and 5 are there, at ROOT and TOP, and 3, at SIDE; tags 0, at a tag
     * object, and 5; tracks of all branches. Paths 0 and 15 have six lines, another in SIDE. There are two stashes.
     */
    static VersionWorks ends() {
        VersionWorks x = new VersionWorks();
        for (int r = 0; r < 2; r++) {
            x.startBranch(r, 2);
            x.write(r, 0, 123);
            x.add(r, 0);
            x.write(r, 0, 12345);
            x.write(r, 15, 12345);
            x.addAll(r);
            x.collect(r, 0);
            int root = x.commit(r, 0, 0);
            x.branch(r, 0, root);
            x.branch(r, 3, root);
            x.write(r, 0, 123459);
            x.write(r, 15, 123459);
            x.write(r, 7, 77);
            x.addAll(r);
            int top = x.commit(r, 9, 99);
            x.branch(r, 5, top);
            x.switchTo(r, 3);
            x.write(r, 0, 123458);
            x.write(r, 15, 123457);
            x.write(r, 8, 5);
            x.addAll(r);
            x.commit(r, 4, 44);
            x.switchTo(r, 2);
            x.annotate(r, 0, top, 5);
            x.tag(r, 5, root);
            x.write(r, 7, 78);
            x.stashPush(r, 1, 1);
            x.write(r, 7, 79);
            x.stashPush(r, 1, 2);
            x.write(r, 11, 4);
        }
        x.fetch(0, 240);
        x.fetch(1, 240);
        return x;
    }

    /** Branches 0 and 5, and all tags, are not there. */
    static VersionWorks bare() {
        VersionWorks x = ends();
        for (int r = 0; r < 2; r++) {
            x.deleteBranch(r, 0, true);
            x.deleteBranch(r, 5, true);
            x.deleteTag(r, 0);
            x.deleteTag(r, 5);
            x.deleteBranch(r, 3, true);
        }
        return x;
    }

    /** HEAD is on branch 1, which is unborn; the index and the files are those of ends(). */
    static VersionWorks unborn() {
        VersionWorks x = ends();
        x.startBranch(0, 1);
        x.startBranch(1, 1);
        return x;
    }

    /** A merge of SIDE stopped at conflicts at the paths 0 and 15. */
    static VersionWorks stopped() {
        VersionWorks x = ends();
        for (int r = 0; r < 2; r++) {
            x.merge(r, x.branchAt(r, 3), 0, 0, 6, 66);
        }
        return x;
    }

    /** All conflicts of the merge are over; it can proceed. */
    static VersionWorks solved() {
        VersionWorks x = stopped();
        for (int r = 0; r < 2; r++) {
            x.write(r, 0, 9);
            x.addAll(r);
        }
        return x;
    }

    /** The index has a conflict, at path 7, and no operation is in progress: a stash was applied. */
    static VersionWorks clashed() {
        VersionWorks x = ends();
        for (int r = 0; r < 2; r++) {
            commit(x, r, 7, 66, 3);
            x.stashApply(r, 0, false);
        }
        return x;
    }

    /** A rebase of branch 3 onto TOP stopped at SIDE; two commits are still to do. */
    static VersionWorks rebasing() {
        VersionWorks x = ends();
        for (int r = 0; r < 2; r++) {
            x.switchTo(r, 3);
            commit(x, r, 8, 55, 7);
            commit(x, r, 8, 555, 8);
            x.rebase(r, x.branchAt(r, 2), x.branchAt(r, 2), 0);
        }
        return x;
    }

    /** A cherry-pick of SIDE stopped. */
    static VersionWorks picking() {
        VersionWorks x = ends();
        for (int r = 0; r < 2; r++) {
            x.cherryPick(r, x.branchAt(r, 3), 0, 0);
        }
        return x;
    }

    /** A revert of ROOT stopped: its paths have changed since. */
    static VersionWorks reverting() {
        VersionWorks x = ends();
        for (int r = 0; r < 2; r++) {
            x.revert(r, x.branchAt(r, 0), 0, 0, 3, 33);
        }
        return x;
    }

    /** A bisection from ROOT to the fifth commit behind TOP: six are left. */
    static VersionWorks searching() {
        VersionWorks x = ends();
        for (int r = 0; r < 2; r++) {
            for (int k = 1; k <= 5; k++) {
                commit(x, r, 7, k, k);
            }
            x.bisectStart(r, x.head(r), x.branchAt(r, 0));
        }
        return x;
    }

    /** A row of commits at path 0, each with other lines, with the messages 1, 2 and so on. */
    static VersionWorks line(int length) {
        VersionWorks x = new VersionWorks();
        for (int k = 1; k <= length; k++) {
            commit(x, 0, 0, 10 * (1 + k / 9) + 1 + k % 9, k);
        }
        return x;
    }

    static VersionWorks typed(VersionWorks x, String text) {
        x.clearText();
        for (char c : text.toCharArray()) {
            x.type(c);
        }
        return x;
    }

    static VersionWorks typed(String text) {
        return typed(ends(), text);
    }

    /** Gives numbers to blobs until so many are left; the index and the file at path 13 are nothing before and behind. */
    static void fill(VersionWorks x, int r, int left) {
        for (int k = 0; x.objects(r) < 240 - left && k < 240; k++) {
            x.write(r, 13, 7);
            x.insertLine(r, 13, 0, 97);
            x.insertLine(r, 13, 0, 1 + k % 90);
            x.insertLine(r, 13, 0, 1 + k / 90);
            x.add(r, 13);
        }
        x.unstage(r, 13);
        if (x.fileLines(r, 13) != NONE) {
            x.removeFile(r, 13);
        }
        if (x.objects(r) != 240 - left) {
            throw new RuntimeException("so many numbers are not left: " + left);
        }
    }

    static VersionWorks full(Edge.Scene scene, int r, int left) {
        VersionWorks x = scene.make();
        fill(x, r, left);
        return x;
    }
}
