/** Promises 32 to 37: bisection, stashes, the rehearsal, what is sound. The answers were worked out by hand. */
final class Promises32to37 {
    private static final int NONE = VersionWorks.NONE;

    public static void main(String[] args) {
        bisections();
        skips();
        sides();
        stashes();
        stashConflicts();
        stashIndex();
        rehearsals();
        promise37();
        Due.end("Promises32to37");
    }

    private static int commit(VersionWorks x, int path, long digits, int message) {
        x.write(0, path, digits);
        x.addAll(0);
        return x.commit(0, 1, message);
    }

    /** A line of nine commits, 1 to 9. */
    private static int[] line(VersionWorks x) {
        int[] c = new int[10];
        for (int i = 1; i < 10; i++) {
            c[i] = commit(x, 0, i, i);
        }
        return c;
    }

    private static void bisections() {
        VersionWorks x = new VersionWorks();
        int[] c = line(x);
        Due.is("33 none in progress", NONE, () -> x.left(0));
        Due.index("33 no list", () -> x.leftAt(0, 0));
        Due.state("34 weight", () -> x.weight(0, c[1]));
        Due.state("34 nextTest", () -> x.nextTest(0));
        Due.state("34 culprit", () -> x.culprit(0));
        Due.state("34 tests", () -> x.tests(0));
        Due.state("35 testsFor", () -> x.testsFor(0, c[1]));
        Due.state("32 bisectGood", () -> x.bisectGood(0, c[1]));
        Due.state("32 bisectBad", () -> x.bisectBad(0, c[1]));
        Due.state("33 bisectSkip", () -> x.bisectSkip(0, c[1]));
        Due.state("33 bisectEnd", () -> x.bisectEnd(0));
        Due.index("35 commit ahead of none in progress", () -> x.testsFor(0, 0));
        Due.state("32 bad is an ancestor of good", () -> x.bisectStart(0, c[1], c[9]));
        Due.state("32 bad is good", () -> x.bisectStart(0, c[9], c[9]));
        Due.index("32 no commit", () -> x.bisectStart(0, c[9], 0));
        Due.is("32 start: 2 to 9 are left", 8, () -> x.bisectStart(0, c[9], c[1]));
        Due.state("32 in progress", () -> x.bisectStart(0, c[9], c[1]));
        Due.is("33 left", 8, () -> x.left(0));
        Due.is("33 newest first", c[9], () -> x.leftAt(0, 0));
        Due.is("33 oldest last", c[2], () -> x.leftAt(0, 7));
        Due.index("33 no more", () -> x.leftAt(0, 8));
        Due.is("34 weight", 4, () -> x.weight(0, c[5]));
        Due.is("34 weight of the bad one", 8, () -> x.weight(0, c[9]));
        Due.state("34 not left", () -> x.weight(0, c[1]));
        Due.is("34 the lesser of both is 4", c[5], () -> x.nextTest(0));
        Due.is("34 not known", NONE, () -> x.culprit(0));
        Due.is("34 tests", 3, () -> x.tests(0));
        Due.is("35 testsFor", 3, () -> x.testsFor(0, c[2]));
        Due.state("35 not left", () -> x.testsFor(0, c[1]));
        Due.is("32 good", 4, () -> x.bisectGood(0, c[5]));
        Due.is("32 good again, none of them left", 4, () -> x.bisectGood(0, c[2]));
        Due.state("32 the bad one is its ancestor", () -> x.bisectGood(0, c[9]));
        Due.is("34 of 6 to 9, 7 halves", c[7], () -> x.nextTest(0));
        Due.state("32 not left", () -> x.bisectBad(0, c[5]));
        Due.is("32 bad", 2, () -> x.bisectBad(0, c[7]));
        Due.is("34 then 6", c[6], () -> x.nextTest(0));
        Due.is("32 bad", 1, () -> x.bisectBad(0, c[6]));
        Due.is("34 culprit", c[6], () -> x.culprit(0));
        Due.is("34 none to test", NONE, () -> x.nextTest(0));
        Due.is("34 no tests", 0, () -> x.tests(0));
        Due.state("32 a descendant of the bad one cannot be good", () -> x.bisectGood(0, c[8]));
        Due.is("33 end", 1, () -> x.bisectEnd(0));
        Due.is("33 over", NONE, () -> x.left(0));
        Due.is("32 anew, without the good ones of before", 8, () -> x.bisectStart(0, c[9], c[1]));
    }

    private static void skips() {
        VersionWorks x = new VersionWorks();
        int[] c = line(x);
        x.bisectStart(0, c[5], c[1]);
        // 2, 3, 4, 5 are left; 3 halves them.
        Due.is("34 next", c[3], () -> x.nextTest(0));
        Due.is("33 skip", 1, () -> x.bisectSkip(0, c[3]));
        Due.is("33 still left", 4, () -> x.left(0));
        Due.is("34 of 2 and 4 the lowest number", c[2], () -> x.nextTest(0));
        Due.is("33 skip", 2, () -> x.bisectSkip(0, c[2]));
        Due.is("34 next", c[4], () -> x.nextTest(0));
        Due.is("33 skip the bad one", 3, () -> x.bisectSkip(0, c[5]));
        Due.is("33 again", 3, () -> x.bisectSkip(0, c[5]));
        Due.is("33 skip", 4, () -> x.bisectSkip(0, c[4]));
        Due.is("34 none to test", NONE, () -> x.nextTest(0));
        Due.is("34 as if nothing was skipped", 2, () -> x.tests(0));
        Due.state("33 not left", () -> x.bisectSkip(0, c[1]));
        Due.index("33 no commit", () -> x.bisectSkip(0, 0));
        x.reset(0, c[1], 2);
        x.expireReflog(0, 0);
        Due.is("29 the bisection reaches", 20, () -> x.reached(0));
        Due.is("29 collect 6 to 9", 16, () -> x.collect(0, 0));
        x.bisectGood(0, c[3]);
        Due.is("33 left", 2, () -> x.left(0));
        Due.is("33 end", 2, () -> x.bisectEnd(0));
        Due.is("29 not any more", 16, () -> x.collect(0, 0));
    }

    /** Two sides of two commits each, and a merge: 1, 2a 3a, 2b 3b, m. */
    private static void sides() {
        VersionWorks x = new VersionWorks();
        int root = commit(x, 0, 1, 1);
        x.branch(0, 1, root);
        int a2 = commit(x, 4, 2, 2);
        int a3 = commit(x, 4, 3, 3);
        x.switchTo(0, 1);
        int b2 = commit(x, 8, 4, 4);
        int b3 = commit(x, 8, 5, 5);
        x.merge(0, a3, 0, 0, 1, 6);
        int m = x.head(0);
        Due.is("32 start", 5, () -> x.bisectStart(0, m, root));
        Due.is("34 weight of a side", 2, () -> x.weight(0, a3));
        Due.is("34 weight of the merge", 5, () -> x.weight(0, m));
        Due.is("34 of a3 and b3 the lowest number", a3, () -> x.nextTest(0));
        Due.is("35 a2: a3 bad, a2 bad", 2, () -> x.testsFor(0, a2));
        Due.is("35 b2: a3 good, b2 bad", 2, () -> x.testsFor(0, b2));
        Due.is("35 m: a3 good, b2 good, b3 good", 3, () -> x.testsFor(0, m));
        Due.is("34 tests", 3, () -> x.tests(0));
        Due.is("32 good", 3, () -> x.bisectGood(0, a3));
        Due.is("34 b2 or b3: the lowest", b2, () -> x.nextTest(0));
        Due.is("32 bad: the good one beside stays good", 2, () -> x.bisectBad(0, b3));
        Due.is("33 end", 2, () -> x.bisectEnd(0));
        Due.yes("isSound", x.isSound(0, 10));
    }

    private static void stashes() {
        VersionWorks x = new VersionWorks();
        Due.state("35 no head commit", () -> x.stashPush(0, 0, 0));
        Due.argument("35 author", () -> x.stashPush(0, 10, 0));
        Due.argument("35 message", () -> x.stashPush(0, 0, 100));
        x.write(0, 0, 123);
        int one = commit(x, 4, 4, 1);
        Due.is("35 nothing to stash", NONE, () -> x.stashPush(0, 0, 0));
        x.write(0, 9, 9);
        Due.is("35 a file not tracked is none", NONE, () -> x.stashPush(0, 0, 0));
        x.write(0, 0, 129);
        x.add(0, 0);
        x.write(0, 0, 12);
        x.removeFile(0, 4);
        x.write(0, 8, 8);
        x.add(0, 8);
        int entries = x.reflog(0);
        x.tick(0, 3);
        int stash = x.stashPush(0, 5, 55);
        Due.is("36 stashes", 1, () -> x.stashes(0));
        Due.is("36 stashAt", stash, () -> x.stashAt(0, 0));
        Due.is("35 first parent: the head", one, () -> x.parent(0, stash, 0));
        int index = x.parent(0, stash, 1);
        Due.is("35 of the index", one, () -> x.parent(0, index, 0));
        Due.is("35 one parent", NONE, () -> x.parent(0, index, 1));
        Due.is("35 author", 5, () -> x.author(0, index));
        Due.is("35 message", 55, () -> x.message(0, stash));
        Due.is("35 date", 3, () -> x.date(0, stash));
        Due.is("35 the index has 129", 3, () -> x.blobLines(0, x.blobAt(0, index, 0)));
        Due.is("35 the files have 12", 2, () -> x.blobLines(0, x.blobAt(0, stash, 0)));
        Due.is("35 the index has 4", 1, () -> x.blobLines(0, x.blobAt(0, index, 4)));
        Due.is("35 the files have it not", NONE, () -> x.blobAt(0, stash, 4));
        Due.is("35 no file that is not tracked", NONE, () -> x.blobAt(0, stash, 9));
        Due.is("35 HEAD is not moved", entries, () -> x.reflog(0));
        Due.is("35 forced to the head", 3, () -> x.fileLine(0, 0, 2));
        Due.is("35 forced: 8 is gone", NONE, () -> x.fileLines(0, 8));
        Due.is("35 forced: the index of 8", NONE, () -> x.indexed(0, 8));
        Due.is("35 other files stay", 1, () -> x.fileLines(0, 9));
        Due.index("35 no such stash", () -> x.stashApply(0, 1, false) ? 1 : 0);
        Due.index("35 no such stash", () -> x.stashPop(0, -1, false) ? 1 : 0);
        x.write(0, 0, 7);
        Due.state("35 a file in the way", () -> x.stashApply(0, 0, false) ? 1 : 0);
        x.restore(0, 0);
        x.tick(0, 1);
        Due.is("35 apply", 1, () -> x.stashApply(0, 0, false) ? 1 : 0);
        Due.is("35 the file", 2, () -> x.fileLines(0, 0));
        Due.is("35 the index stays", 0, () -> x.staged(0, 0));
        Due.is("35 the file goes", NONE, () -> x.fileLines(0, 4));
        Due.is("35 the index of it stays", 0, () -> x.staged(0, 4));
        Due.is("35 where the index has nothing it gets it", 1, () -> x.staged(0, 8));
        Due.is("35 the result is stored", 4, () -> x.stamp(0, x.indexed(0, 8)));
        Due.is("36 it stays", 1, () -> x.stashes(0));
        x.reset(0, one, 2);
        Due.is("35 pop", 1, () -> x.stashPop(0, 0, false) ? 1 : 0);
        Due.is("36 dropped", 0, () -> x.stashes(0));
        Due.index("36 none to drop", () -> x.stashDrop(0, 0));
        Due.index("36 none", () -> x.stashAt(0, 0));
        for (int k = 0; k < 6; k++) {
            x.reset(0, one, 2);
            x.write(0, 0, 91 + k);
            x.stashPush(0, 1, k);
        }
        Due.is("36 six", 6, () -> x.stashes(0));
        x.write(0, 0, 5);
        Due.state("35 there are 6", () -> x.stashPush(0, 1, 1));
        x.restore(0, 0);
        Due.is("35 nothing to stash is no seventh", NONE, () -> x.stashPush(0, 1, 1));
        int third = x.stashAt(0, 2);
        Due.is("36 newest first", 3, () -> x.message(0, third));
        Due.is("36 drop one of them", third, () -> x.stashDrop(0, 2));
        Due.is("36 the next moves up", 2, () -> x.message(0, x.stashAt(0, 2)));
        Due.is("36 its commit stays", 2, () -> x.kind(0, third));
        x.tick(0, 1);
        // Of the popped stash the blobs 129, 12 and 8, a tree of each, two roots and two commits: ten.
        // Of the dropped one a blob, a tree, a root and two commits: five.
        Due.is("29 till it is collected", 15, () -> x.collect(0, 1));
        Due.index("36 no such stash", () -> x.stashDrop(0, 5));
        Due.yes("isSound", x.isSound(0, 11));
    }

    private static void stashConflicts() {
        VersionWorks x = new VersionWorks();
        int one = commit(x, 0, 123, 1);
        x.write(0, 0, 193);
        x.write(0, 4, 4);
        x.add(0, 4);
        int stash = x.stashPush(0, 1, 1);
        int two = commit(x, 0, 183, 2);
        int before = x.objects(0);
        Due.is("35 pop with a conflict", 0, () -> x.stashPop(0, 0, false) ? 1 : 0);
        Due.is("36 it is not dropped", 1, () -> x.stashes(0));
        Due.is("35 conflict", 4, () -> x.staged(0, 0));
        Due.is("35 base", x.blobAt(0, one, 0), () -> x.stage(0, 0, 0));
        Due.is("35 ours", x.blobAt(0, two, 0), () -> x.stage(0, 0, 1));
        Due.is("35 theirs", x.blobAt(0, stash, 0), () -> x.stage(0, 0, 2));
        Due.is("35 left", 100, () -> x.fileLine(0, 0, 1));
        Due.is("35 the other path is done", 1, () -> x.staged(0, 4));
        Due.is("35 nothing is stored anew", before, () -> x.objects(0));
        Due.is("35 no operation", 0, () -> x.operation(0));
        Due.state("35 the index has a conflict", () -> x.stashApply(0, 0, false) ? 1 : 0);
        Due.state("35 the index has a conflict", () -> x.stashPush(0, 0, 0));
        Due.state("9 the index has a conflict", () -> x.commit(0, 0, 0));
        Due.state("12 the index has a conflict", () -> x.switchTo(0, 0));
        Due.state("12 soft with a conflict", () -> x.reset(0, one, 0));
        Due.state("11 start with a conflict", () -> x.startBranch(0, 4));
        Due.is("12 mixed with a conflict", two, () -> x.reset(0, two, 1));
        Due.is("12 the conflict is over", 0, () -> x.staged(0, 0));
        x.reset(0, two, 2);
        Due.state("35 with the index: 4 was not there, all else stayed", () -> {
            x.write(0, 4, 5);
            return x.stashApply(0, 0, true) ? 1 : 0;
        });
        x.removeFile(0, 4);
        Due.is("35 with the index, conflict by the files", 0, () -> x.stashApply(0, 0, true) ? 1 : 0);
        Due.is("35 conflict stays", 4, () -> x.staged(0, 0));
        Due.is("35 the index of 4", x.blobAt(0, x.parent(0, stash, 1), 4), () -> x.indexed(0, 4));
    }

    private static void stashIndex() {
        VersionWorks x = new VersionWorks();
        int one = commit(x, 0, 123, 1);
        x.write(0, 0, 1239);
        x.add(0, 0);
        x.write(0, 0, 91239);
        x.write(0, 4, 4);
        x.add(0, 4);
        x.removeFile(0, 4);
        x.stashPush(0, 1, 1);
        x.tick(0, 5);
        Due.is("35 with the index", 1, () -> x.stashApply(0, 0, true) ? 1 : 0);
        Due.is("35 the index is that of the stash", 4, () -> x.blobLines(0, x.indexed(0, 0)));
        Due.is("35 the file", 5, () -> x.fileLines(0, 0));
        Due.is("35 the index has 4", 1, () -> x.staged(0, 4));
        Due.is("35 there is no file", 3, () -> x.unstaged(0, 4));
        Due.is("35 stored as a blob", 5, () -> x.stamp(0, x.indexed(0, 4)));
        x.reset(0, one, 2);
        x.write(0, 0, 1238);
        x.add(0, 0);
        Due.state("35 the second merge has a conflict", () -> x.stashApply(0, 0, true) ? 1 : 0);
        Due.is("35 without the index it conflicts, too", 0, () -> x.stashApply(0, 0, false) ? 1 : 0);
        x.reset(0, one, 2);
        Due.is("35 pop with the index", 1, () -> x.stashPop(0, 0, true) ? 1 : 0);
        Due.is("36 dropped", 0, () -> x.stashes(0));
    }

    private static void rehearsals() {
        VersionWorks x = new VersionWorks();
        Due.argument("36 seed -1", () -> x.rehearse(0, -1, 1));
        Due.argument("36 seed 65536", () -> x.rehearse(0, 65536, 1));
        Due.argument("36 steps 0", () -> x.rehearse(0, 0, 0));
        Due.argument("36 steps 41", () -> x.rehearse(0, 0, 41));
        Due.index("36 nowhere", () -> x.rehearse(2, -1, 0));
        // 13849 / 16 is 865, modulo 12 is 1: a file.
        long lot = 0;
        long[] drawn = new long[6];
        for (int k = 0; k < 6; k++) {
            lot = (25173 * lot + 13849) % 65536;
            drawn[k] = lot / 16;
        }
        Due.same("36 the first lot of 12", 1L, drawn[0] % 12);
        int path = (int) (5 * (drawn[1] % 4));
        Due.is("36 one call", 1, () -> x.rehearse(0, 0, 1));
        Due.is("36 four digits", 4, () -> x.fileLines(0, path));
        for (int k = 0; k < 4; k++) {
            int place = k;
            Due.is("36 a digit", drawn[2 + k] % 9 + 1, () -> x.fileLine(0, path, place));
        }
        Due.is("36 the file gets a line", 1, () -> x.rehearse(0, 0, 1));
        Due.is("36 five lines", 5, () -> x.fileLines(0, path));
        Due.is("36 its line", drawn[3] % 9 + 1, () -> x.fileLine(0, path, (int) (drawn[2] % 5)));
        for (int seed = 0; seed < 60; seed++) {
            x.rehearse(seed % 2, seed * 1000, 40);
            Due.yes("isSound behind rehearsals", x.isSound(0, 0) && x.isSound(1, 0));
        }
        VersionWorks one = new VersionWorks();
        VersionWorks two = new VersionWorks();
        for (int seed = 0; seed < 30; seed++) {
            int s = seed;
            Due.is("36 no chance but the seed", one.rehearse(0, seed, 40), () -> two.rehearse(0, s, 40));
            Due.is("36 the same history", one.objects(0), () -> two.objects(0));
        }
    }

    private static void promise37() {
        VersionWorks x = new VersionWorks();
        Due.argument("37 part 12", () -> x.isSound(0, 12) ? 1 : 0);
        Due.argument("37 part -1", () -> x.isSound(0, -1) ? 1 : 0);
        Due.index("37 nowhere", () -> x.isSound(2, 12) ? 1 : 0);
        commit(x, 0, 123, 1);
        for (int part = 0; part <= 11; part++) {
            int p = part;
            Due.is("37 part", 1, () -> x.isSound(0, p) ? 1 : 0);
            Due.is("37 part", 1, () -> x.isSound(1, p) ? 1 : 0);
        }
    }
}
