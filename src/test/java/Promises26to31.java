/** Promises 26 to 31: fetch, push, what is told of a transfer, reaching, collecting, packs. Worked out by hand. */
final class Promises26to31 {
    private static final int NONE = VersionWorks.NONE;

    public static void main(String[] args) {
        fetches();
        fetchedTags();
        roundsOfTen();
        pushes();
        pushesToHead();
        pushDeletes();
        noRoom();
        noRoomThere();
        promise29();
        reachedByRefs();
        wouldSendAfterFetch();
        promise30dangling();
        packs();
        Due.end("Promises26to31");
    }

    private static int commit(VersionWorks x, int repo, int path, long digits, int message) {
        x.write(repo, path, digits);
        x.addAll(repo);
        return x.commit(repo, 1, message);
    }

    private static void told(VersionWorks x, String what, int rounds, int told, int sent, int doubles) {
        Due.is("28 rounds " + what, rounds, () -> x.rounds());
        Due.is("28 told " + what, told, () -> x.told());
        Due.is("28 sent " + what, sent, () -> x.sent());
        Due.is("28 doubles " + what, doubles, () -> x.doubles());
    }

    private static void fetches() {
        VersionWorks x = new VersionWorks();
        Due.is("26 fetch of nothing", 0, () -> x.fetch(1, 1));
        told(x, "of nothing", 0, 0, 0, 0);
        Due.argument("26 limit 0", () -> x.fetch(1, 0));
        Due.argument("26 limit 241", () -> x.fetch(1, 241));
        Due.index("26 nowhere", () -> x.fetch(2, 0));
        int one = commit(x, 0, 0, 1, 1);
        int two = commit(x, 0, 4, 4, 2);
        x.branch(0, 3, one);
        x.write(1, 9, 4);
        x.add(1, 9);
        x.tick(1, 50);
        // The pack: blob, folder, root, commit; blob, folder, root, commit. The second blob is a double.
        Due.is("26 broken off", NONE, () -> x.fetch(1, 3));
        told(x, "broken off", 0, 0, 3, 0);
        Due.is("26 what came whole stays", 4, () -> x.objects(1));
        Due.is("26 no track", NONE, () -> x.trackAt(1, 0));
        Due.is("26 stamped by its own clock", 50, () -> x.stamp(1, 1));
        Due.is("26 again, a bit further", NONE, () -> x.fetch(1, 7));
        told(x, "again", 0, 0, 7, 4);
        Due.is("26 the double is stamped, too", 50, () -> x.stamp(1, 0));
        Due.is("26 the first commit came", one, () -> x.twin(1, 4));
        Due.is("26 through", 2, () -> x.fetch(1, 4));
        // One round tells the one commit, which is common: four objects are left, three of them doubles.
        told(x, "through", 1, 1, 4, 3);
        Due.is("26 track", x.twin(0, two), () -> x.trackAt(1, 0));
        Due.is("26 track", 4, () -> x.trackAt(1, 3));
        Due.is("26 dates are told", 0, () -> x.date(1, x.trackAt(1, 0)));
        Due.is("26 nothing new", 0, () -> x.fetch(1, 1));
        told(x, "of nothing new", 0, 0, 0, 0);
        x.deleteBranch(0, 3, true);
        int three = commit(x, 0, 8, 8, 3);
        Due.is("27 wouldSend", 4, () -> x.wouldSend(0, three));
        Due.is("27 wouldSend of what is there", 0, () -> x.wouldSend(0, two));
        Due.index("27 wouldSend a tree", () -> x.wouldSend(0, two - 1));
        Due.is("26 one track moved", 1, () -> x.fetch(1, 240));
        // In the one round both are told, and both are common.
        told(x, "later", 1, 2, 4, 0);
        Due.is("26 other tracks stay", 4, () -> x.trackAt(1, 3));
        Due.is("27 pruneTracks", 1, () -> x.pruneTracks(1));
        Due.is("27 pruned", NONE, () -> x.trackAt(1, 3));
        Due.is("27 the other one stays", x.twin(0, three), () -> x.trackAt(1, 0));
        Due.is("27 prune again", 0, () -> x.pruneTracks(1));
        Due.index("27 prune nowhere", () -> x.pruneTracks(-1));
        Due.is("26 HEAD stays unborn", NONE, () -> x.head(1));
        Due.yes("isSound", x.isSound(0, 8) && x.isSound(1, 0));
    }

    private static void fetchedTags() {
        VersionWorks x = new VersionWorks();
        int one = commit(x, 0, 0, 1, 1);
        int two = commit(x, 0, 0, 2, 2);
        x.annotate(0, 0, one, 5);
        x.annotate(0, 1, two, 6);
        x.tag(0, 2, one);
        x.reset(0, one, 2);
        int mine = commit(x, 1, 0, 1, 1);
        x.tag(1, 2, mine);
        Due.is("26 a track and a tag", 2, () -> x.fetch(1, 240));
        Due.is("26 the tag object came", one, () -> x.twin(1, x.tagged(1, x.tagAt(1, 0))));
        Due.is("26 of no branch's history, no tag", NONE, () -> x.tagAt(1, 1));
        Due.is("26 a tag that is there stays", mine, () -> x.tagAt(1, 2));
        told(x, "of a tag", 1, 1, 1, 0);
        x.deleteTag(1, 2);
        x.deleteTag(1, 0);
        Due.is("26 tags come again, though their twins are there", 2, () -> x.fetch(1, 1));
        told(x, "of tags that are there", 0, 0, 0, 0);
        Due.is("26 the tag", mine, () -> x.tagAt(1, 2));
    }

    /** Ten commits of the receiver, of which the oldest one is common: two rounds of four, one of two. */
    private static void roundsOfTen() {
        VersionWorks x = new VersionWorks();
        int root = commit(x, 0, 0, 1, 0);
        x.fetch(1, 240);
        x.reset(1, x.trackAt(1, 0), 2);
        for (int i = 1; i < 10; i++) {
            commit(x, 1, 0, 1 + i % 9, i);
        }
        commit(x, 0, 0, 5, 50);
        Due.is("26 fetched", 1, () -> x.fetch(1, 240));
        // The receiver made a file 5 itself: the blob, its tree and the root are doubles.
        told(x, "of ten commits", 3, 10, 4, 3);
        x.fetch(0, 240);
        // Nine commits of four objects, but the files 1 and 5, their trees and roots, which the two common ones reach.
        told(x, "the other way", 1, 2, 30, 0);
        Due.yes("root is common", x.twin(0, root) >= 0);
    }

    private static void pushes() {
        VersionWorks x = new VersionWorks();
        Due.state("27 the branch is not there", () -> x.push(0, 0, 0, 0, 240));
        int one = commit(x, 0, 0, 1, 1);
        int two = commit(x, 0, 0, 2, 2);
        x.branch(0, 1, one);
        Due.index("27 branch 6", () -> x.push(0, 6, 0, 3, 0));
        Due.index("27 target -1", () -> x.push(0, 0, -1, 3, 0));
        Due.argument("27 how 3", () -> x.push(0, 2, 0, 3, 240));
        Due.argument("27 limit 0", () -> x.push(0, 2, 0, 0, 0));
        Due.argument("27 limit 241", () -> x.push(0, 2, 0, 0, 241));
        Due.is("27 broken off", NONE, () -> x.push(0, 0, 4, 0, 7));
        Due.is("27 no branch there", NONE, () -> x.branchAt(1, 4));
        Due.is("27 no track here", NONE, () -> x.trackAt(0, 4));
        Due.is("27 pushed", 7, () -> x.push(0, 0, 4, 0, 240));
        // By then the first commit was there: four objects were sent again, of which but the commit all were doubles.
        told(x, "of a push", 1, 1, 4, 3);
        Due.is("27 the branch there", 7, () -> x.branchAt(1, 4));
        Due.is("27 the track here is the commit itself", two, () -> x.trackAt(0, 4));
        Due.state("27 plain, no ancestor", () -> x.push(0, 1, 4, 0, 240));
        Due.is("27 with a lease", 3, () -> x.push(0, 1, 4, 2, 240));
        Due.is("27 the branch went back", 3, () -> x.branchAt(1, 4));
        Due.is("27 plain, forward", 7, () -> x.push(0, 0, 4, 0, 240));
        x.moveBranch(1, 4, 3);
        Due.state("27 the lease is out", () -> x.push(0, 0, 4, 2, 240));
        x.deleteBranch(1, 4, true);
        Due.state("27 the lease is out, not there", () -> x.push(0, 0, 4, 2, 240));
        Due.is("27 plain, not there", 7, () -> x.push(0, 0, 4, 0, 240));
        x.branch(1, 5, 3);
        Due.state("27 no track, a branch", () -> x.push(0, 0, 5, 2, 240));
        Due.is("27 neither is there", 3, () -> x.push(0, 1, 3, 2, 240));
        Due.is("27 forced", 3, () -> x.push(0, 1, 4, 1, 240));
        int other = commit(x, 1, 0, 9, 9);
        x.branch(1, 2, other);
        Due.state("27 plain over a commit without a twin", () -> x.push(0, 0, 2, 0, 240));
        Due.is("27 forced over it", 7, () -> x.push(0, 0, 2, 1, 240));
    }

    private static void pushesToHead() {
        VersionWorks x = new VersionWorks();
        int one = commit(x, 0, 0, 1, 1);
        x.write(1, 0, 1);
        Due.state("27 a file where HEAD is unborn", () -> x.push(0, 0, 0, 0, 240));
        Due.is("27 nothing came", 0, () -> x.objects(1));
        x.add(1, 0);
        Due.state("27 the index does not tell the head", () -> x.push(0, 0, 0, 0, 240));
        x.unstage(1, 0);
        x.removeFile(1, 0);
        x.tick(1, 8);
        int there = 3;
        Due.is("27 unborn, pushed", there, () -> x.push(0, 0, 0, 0, 240));
        Due.is("27 it is born", there, () -> x.head(1));
        Due.is("27 its files", 1, () -> x.fileLines(1, 0));
        Due.is("27 its index", 0, () -> x.indexed(1, 0));
        Due.is("27 an entry there", 8, () -> x.reflogAct(1, 0));
        Due.is("27 by its clock", 8, () -> x.reflogDate(1, 0));
        Due.is("27 none here", 1, () -> x.reflog(0));
        x.write(1, 4, 4);
        commit(x, 0, 0, 2, 2);
        Due.is("27 carried over other files", 7, () -> x.push(0, 0, 0, 0, 240));
        Due.is("27 carried", 2, () -> x.fileLine(1, 0, 0));
        x.write(1, 0, 3);
        commit(x, 0, 8, 8, 3);
        Due.is("27 a path that does not change may differ", 11, () -> x.push(0, 0, 0, 0, 240));
        commit(x, 0, 0, 5, 4);
        Due.state("27 cannot be carried", () -> x.push(0, 0, 0, 1, 240));
        x.restore(1, 0);
        x.add(1, 4);
        Due.state("27 the index does not tell the head", () -> x.push(0, 0, 0, 1, 240));
        Due.is("27 to a branch beside HEAD", 16, () -> x.push(0, 0, 1, 0, 240));
        x.unstage(1, 4);
        Due.is("27 again", 16, () -> x.push(0, 0, 0, 0, 1));
        told(x, "of a commit that is there", 0, 0, 0, 0);
        Due.is("27 an entry also for the same", 16, () -> x.push(0, 0, 0, 0, 1));
        Due.is("27 two entries", 16, () -> x.reflogCommit(1, 1));
        Due.yes("27 of the same", x.reflogCommit(1, 0) == x.reflogCommit(1, 1));
        // Busy: a merge in progress there.
        x.detach(1, there);
        int side = commit(x, 1, 0, 7, 7);
        x.switchTo(1, 0);
        Due.is("22 stops", 3, () -> x.merge(1, side, 0, 0, 1, 1));
        x.takeStage(1, 0, 1);
        x.add(1, 0);
        commit(x, 0, 12, 2, 5);
        Due.state("27 busy", () -> x.push(0, 0, 0, 1, 240));
        // The blob is there, and its tree, which another folder has: the root is 22.
        Due.is("27 another branch of a busy one", 23, () -> x.push(0, 0, 3, 1, 240));
        Due.yes("isSound", x.isSound(1, 0));
        Due.yes("one", x.twin(0, one) == there);
    }

    private static void pushDeletes() {
        VersionWorks x = new VersionWorks();
        int one = commit(x, 0, 0, 1, 1);
        x.push(0, 0, 2, 0, 240);
        x.push(0, 0, 0, 0, 240);
        Due.state("27 HEAD holds it", () -> x.pushDelete(0, 0));
        Due.state("27 not there", () -> x.pushDelete(0, 1));
        Due.index("27 no branch number", () -> x.pushDelete(0, 6));
        int there = x.branchAt(1, 2);
        int next = commit(x, 1, 0, 2, 2);
        x.moveBranch(1, 2, next);
        Due.state("27 not where the track says", () -> x.pushDelete(0, 2));
        x.moveBranch(1, 2, there);
        Due.is("27 pushDelete", there, () -> x.pushDelete(0, 2));
        Due.is("27 gone there", NONE, () -> x.branchAt(1, 2));
        Due.is("27 no track here", NONE, () -> x.trackAt(0, 2));
        x.branch(1, 4, there);
        Due.state("27 there, without a track", () -> x.pushDelete(0, 4));
        Due.yes("one", x.twin(1, there) == one);
    }

    private static void noRoom() {
        VersionWorks x = new VersionWorks();
        commit(x, 1, 0, 1, 1);
        x.write(0, 0, 1);
        x.add(0, 0);
        for (int i = 0; i < 238; i++) {
            x.tag(1, 0, 3);
            x.deleteTag(1, 0);
            x.write(0, 0, 10001111L + 1111 * (i % 8) - 10000000L);
            x.insertLine(0, 0, 0, 1 + i % 99);
            x.insertLine(0, 0, 0, 1 + i / 99);
            x.add(0, 0);
        }
        Due.is("one number is left", 239, () -> x.objects(0));
        x.write(0, 4, 444);
        x.write(0, 8, 888);
        Due.state("8 no room for the second", () -> x.addAll(0));
        Due.is("8 nothing changed", NONE, () -> x.indexed(0, 4));
        Due.is("8 no object came", 239, () -> x.objects(0));
        Due.state("9 no room", () -> x.commit(0, 1, 1));
        // The blob of the other repository is here, the tree is not: three come anew.
        x.tick(0, 3);
        Due.state("26 no room", () -> x.fetch(0, 240));
        Due.is("26 no object came", 239, () -> x.objects(0));
        Due.is("26 no stamp changed", 0, () -> x.stamp(0, 0));
        told(x, "of what was refused", 0, 0, 0, 0);
        Due.is("26 room within the limit", NONE, () -> x.fetch(0, 2));
        Due.is("26 the last number", 240, () -> x.objects(0));
        Due.is("26 the double is stamped", 3, () -> x.stamp(0, 0));
        Due.state("27 no room over there", () -> x.push(1, 0, 1, 0, 3));
        Due.state("7 no room", () -> x.add(0, 4));
        x.write(0, 4, 1);
        Due.is("7 what is present needs none", 0, () -> x.add(0, 4));
        Due.is("8 the file at 4, not at 8", 1, () -> x.removeFile(0, 8) - 2);
        Due.yes("isSound", x.isSound(0, 0));
    }

    /** Two numbers are left over there: of four objects two would come, so none does. */
    private static void noRoomThere() {
        VersionWorks x = new VersionWorks();
        for (int i = 0; i < 238; i++) {
            x.write(1, 0, 1);
            x.insertLine(1, 0, 0, 1 + i % 99);
            x.insertLine(1, 0, 0, 1 + i / 99);
            x.add(1, 0);
        }
        x.unstage(1, 0);
        x.removeFile(1, 0);
        Due.is("two numbers are left", 238, () -> x.objects(1));
        commit(x, 0, 0, 777, 1);
        Due.state("27 no room", () -> x.push(0, 0, 0, 0, 240));
        Due.is("27 nothing came", 238, () -> x.objects(1));
        Due.is("27 no branch", NONE, () -> x.branchAt(1, 0));
        told(x, "of what was refused", 0, 0, 0, 0);
        Due.is("27 within the limit", NONE, () -> x.push(0, 0, 0, 0, 2));
        Due.is("27 two came", 240, () -> x.objects(1));
        told(x, "within the limit", 0, 0, 2, 0);
        Due.state("27 no room for the third", () -> x.push(0, 0, 0, 0, 3));
    }

    private static void promise29() {
        VersionWorks x = new VersionWorks();
        int one = commit(x, 0, 0, 1, 1);
        Due.is("29 reached", 4, () -> x.reached(0));
        x.write(0, 0, 2);
        x.add(0, 0);
        Due.is("29 an entry of the index", 5, () -> x.reached(0));
        Due.is("29 isReached", 1, () -> x.isReached(0, 4) ? 1 : 0);
        x.unstage(0, 0);
        Due.is("29 not any more", 0, () -> x.isReached(0, 4) ? 1 : 0);
        Due.index("29 no object", () -> x.isReached(0, 5) ? 1 : 0);
        Due.index("29 nowhere", () -> x.reached(2));
        x.tick(0, 10);
        Due.argument("29 grace -1", () -> x.collect(0, -1));
        Due.argument("29 grace 10000", () -> x.collect(0, 10000));
        Due.is("29 kept by its stamp: 10 less 0 is below 11", 0, () -> x.collect(0, 11));
        Due.is("29 collect", 1, () -> x.collect(0, 10));
        Due.is("29 collected", NONE, () -> x.kind(0, 4));
        Due.index("29 it is no object any more", () -> x.isReached(0, 4) ? 1 : 0);
        x.add(0, 0);
        int two = x.commit(0, 1, 2);
        x.reset(0, one, 2);
        Due.is("29 the reflog reaches", 8, () -> x.reached(0));
        Due.argument("29 age -1", () -> x.expireReflog(0, -1));
        Due.argument("29 age 10000", () -> x.expireReflog(0, 10000));
        Due.is("29 none so old", 0, () -> x.expireReflog(0, 11));
        Due.is("29 dates are 0, 10, 10", 1, () -> x.expireReflog(0, 10));
        x.tick(0, 5);
        Due.is("29 no less than the age", 2, () -> x.expireReflog(0, 5));
        Due.is("29 no entries", 0, () -> x.reflog(0));
        Due.is("29 not reached", 0, () -> x.isReached(0, two) ? 1 : 0);
        x.annotate(0, 1, two, 1);
        Due.is("29 a tag reaches", 1, () -> x.isReached(0, two) ? 1 : 0);
        x.deleteTag(0, 1);
        Due.is("29 kept by the tag object that is young", 0, () -> x.collect(0, 1));
        x.tick(0, 1);
        Due.is("29 all five", 5, () -> x.collect(0, 1));
        Due.index("29 commit gone", () -> x.parent(0, two, 0));
        x.detach(0, one);
        Due.is("29 HEAD detached reaches", 4, () -> x.reached(0));
        x.write(0, 4, 4);
        x.add(0, 4);
        x.stashPush(0, 1, 1);
        x.expireReflog(0, 0);
        Due.is("29 a stash reaches: blob, tree, root, two commits", 9, () -> x.reached(0));
    }

    /** Commits that nothing reaches but the newest entry of the reflog, or a track. */
    private static void reachedByRefs() {
        VersionWorks x = new VersionWorks();
        int one = commit(x, 0, 0, 1, 1);
        x.startBranch(0, 1);
        x.deleteBranch(0, 0, true);
        x.removeFile(0, 0);
        x.add(0, 0);
        Due.is("29 the newest entry reaches", 4, () -> x.reached(0));
        x.branch(0, 0, one);
        x.fetch(1, 240);
        Due.is("29 a track reaches", 4, () -> x.reached(1));
        x.branch(1, 3, x.trackAt(1, 0));
        x.deleteBranch(0, 0, true);
        x.pruneTracks(1);
        Due.is("29 a branch reaches", 4, () -> x.reached(1));
        x.annotate(1, 2, x.branchAt(1, 3), 1);
        x.deleteBranch(1, 3, true);
        Due.is("29 a tag reaches its object, too", 5, () -> x.reached(1));
        x.deleteTag(1, 2);
        Due.is("29 nothing reaches", 0, () -> x.reached(1));
        Due.is("29 five are collected", 5, () -> x.collect(1, 0));
    }

    /** What was common in an earlier transfer, the other way, is nothing to wouldSend(). */
    private static void wouldSendAfterFetch() {
        VersionWorks x = new VersionWorks();
        int one = commit(x, 0, 0, 1, 1);
        x.fetch(1, 240);
        x.write(1, 8, 9);
        x.add(1, 8);
        commit(x, 0, 0, 2, 2);
        x.fetch(1, 240);
        int three = commit(x, 0, 4, 9, 3);
        // The blob 9 is there, but no commit there reaches it: blob, tree, root and commit would be sent.
        Due.is("27 wouldSend", 4, () -> x.wouldSend(0, three));
        x.fetch(0, 240);
        Due.is("27 wouldSend, again", 4, () -> x.wouldSend(0, three));
        Due.is("27 what is there", 0, () -> x.wouldSend(0, one));
    }

    private static void promise30dangling() {
        VersionWorks x = new VersionWorks();
        commit(x, 0, 0, 1, 1);
        int two = commit(x, 0, 0, 2, 2);
        x.write(0, 4, 4);
        x.add(0, 4);
        x.unstage(0, 4);
        Due.is("30 dangling", 1, () -> x.dangling(0));
        Due.is("30 the blob", two + 1, () -> x.danglingAt(0, 0));
        Due.index("30 no more", () -> x.danglingAt(0, 1));
        Due.index("30 place -1", () -> x.danglingAt(0, -1));
        Due.index("30 nowhere", () -> x.dangling(2));
        x.reset(0, 3, 2);
        x.expireReflog(0, 0);
        Due.is("30 the commit, not its parts", 2, () -> x.dangling(0));
        Due.is("30 by rising numbers", two, () -> x.danglingAt(0, 0));
        x.collect(0, 0);
        Due.is("30 none", 0, () -> x.dangling(0));
    }

    private static int blob(VersionWorks x, long digits, int more) {
        x.write(0, 15, digits);
        for (int i = 0; i < more; i++) {
            x.insertLine(0, 15, 0, 50 + i);
        }
        return x.add(0, 15);
    }

    private static void packs() {
        VersionWorks x = new VersionWorks();
        int a = blob(x, 123456789, 20);
        int b = blob(x, 123456789, 18);
        int c = blob(x, 12345678, 18);
        int d = blob(x, 7, 0);
        Due.is("30 loose", 0, () -> x.isPacked(0, a) ? 1 : 0);
        Due.is("31 whole: 31 + 29 + 28 + 3", 91, () -> x.packSize(0));
        Due.is("31 no base", NONE, () -> x.packBase(0, b));
        Due.is("31 no depth", 0, () -> x.packDepth(0, b));
        Due.argument("30 window 9", () -> x.pack(0, 9, 0));
        Due.argument("30 window -1", () -> x.pack(0, -1, 0));
        Due.argument("30 depth 9", () -> x.pack(0, 0, 9));
        Due.argument("30 depth -1", () -> x.pack(0, 0, -1));
        Due.index("30 nowhere", () -> x.pack(2, 0, 0));
        Due.is("30 without a window", 91, () -> x.pack(0, 0, 8));
        Due.is("30 packed", 1, () -> x.isPacked(0, d) ? 1 : 0);
        Due.is("30 without a depth", 91, () -> x.pack(0, 8, 0));
        // b out of a: one copy, 5. c out of b or out of a: one copy, 5; b was packed last.
        Due.is("32 deltaCost", 5, () -> x.deltaCost(0, a, b));
        Due.is("32 out of itself: one copy", 5, () -> x.deltaCost(0, a, a));
        Due.is("32 two lines, a run, and a copy", 3 + 2 + 2 + 1, () -> x.deltaCost(0, b, a));
        Due.is("32 nothing alike", 3 + 1 + 1, () -> x.deltaCost(0, a, d) - 0);
        Due.index("32 NONE is no blob", () -> x.deltaCost(0, NONE, a));
        Due.index("32 no blob", () -> x.deltaCost(0, a, 9));
        Due.is("30 window 8, depth 8", 31 + 5 + 5 + 3, () -> x.pack(0, 8, 8));
        Due.is("31 base", a, () -> x.packBase(0, b));
        Due.is("31 the one packed last", b, () -> x.packBase(0, c));
        Due.is("31 depth", 2, () -> x.packDepth(0, c));
        Due.is("31 no cheaper, whole", NONE, () -> x.packBase(0, d));
        Due.is("31 packSize", 44, () -> x.packSize(0));
        Due.is("30 depth 1: b cannot be the base of c", 44, () -> x.pack(0, 8, 1));
        Due.is("31 a is", a, () -> x.packBase(0, c));
        Due.is("30 window 1, depth 1", 31 + 5 + 28 + 3, () -> x.pack(0, 1, 1));
        Due.is("31 c is whole", NONE, () -> x.packBase(0, c));
        Due.is("30 window 1, depth 2", 44, () -> x.pack(0, 1, 2));
        for (int k = 0; k < 26; k++) {
            int place = k;
            Due.is("31 packedLine", x.blobLine(0, c, k), () -> x.packedLine(0, c, place));
        }
        Due.index("31 no line", () -> x.packedLine(0, c, 26));
        Due.index("31 no line", () -> x.packedLine(0, c, -1));
        Due.index("31 no blob", () -> x.packBase(0, -1));
        Due.index("31 no blob", () -> x.packDepth(0, 4));
        Due.index("30 no object", () -> x.isPacked(0, 4) ? 1 : 0);
        int e = blob(x, 123, 0);
        Due.is("30 stored later is loose", 0, () -> x.isPacked(0, e) ? 1 : 0);
        blob(x, 123456789, 18);
        Due.is("30 stored again, still packed", 1, () -> x.isPacked(0, b) ? 1 : 0);
        x.tick(0, 1);
        blob(x, 12345678, 18);
        x.write(0, 14, 7);
        x.add(0, 14);
        x.write(0, 13, 123);
        x.add(0, 13);
        // a and b are not reached any more.
        Due.is("29 collect", 2, () -> x.collect(0, 0));
        Due.is("30 c is loose", 0, () -> x.isPacked(0, c) ? 1 : 0);
        Due.is("31 c has no base", NONE, () -> x.packBase(0, c));
        Due.is("31 whole: 28 + 3 + 5", 36, () -> x.packSize(0));
        Due.is("30 d is packed", 1, () -> x.isPacked(0, d) ? 1 : 0);
        x.commit(0, 1, 1);
        Due.is("31 with a tree, a root, a commit", 36 + 6 + 6 + 8, () -> x.packSize(0));
        x.annotate(0, 0, x.head(0), 1);
        Due.is("31 with a tag object", 61, () -> x.packSize(0));
        Due.is("30 pack", 61, () -> x.pack(0, 8, 8));
        Due.is("30 a commit is packed", 1, () -> x.isPacked(0, x.head(0)) ? 1 : 0);
        Due.yes("isSound", x.isSound(0, 9) && x.isSound(0, 0));
    }
}
