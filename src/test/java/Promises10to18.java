/** Promises 10 to 18: amending, the clock, refs, the reflog, revisions, history. The answers were worked out by hand. */
final class Promises10to18 {
    private static final int NONE = VersionWorks.NONE;

    public static void main(String[] args) {
        promise10();
        promise11();
        promise12();
        promises13to15();
        reflogLimit();
        promises15to17();
        promises17to18();
        listOrder();
        Due.end("Promises10to18");
    }

    private static int commit(VersionWorks x, int path, long digits, int message) {
        x.write(0, path, digits);
        x.addAll(0);
        return x.commit(0, 1, message);
    }

    private static void promise10() {
        VersionWorks x = new VersionWorks();
        Due.state("10 amend without a head", () -> x.amend(0, 0, 0));
        Due.argument("10 amend author", () -> x.amend(0, 10, 0));
        int one = commit(x, 0, 1, 1);
        int two = commit(x, 0, 2, 2);
        Due.is("10 tick", 999, () -> x.tick(0, 999));
        Due.is("10 clock", 999, () -> x.clock(0));
        Due.is("10 the other clock", 0, () -> x.clock(1));
        int amended = x.amend(0, 5, 6);
        Due.yes("10 another commit", amended != two);
        Due.is("10 the parents of the head commit", one, () -> x.parent(0, amended, 0));
        Due.is("10 the same snapshot", x.rootTree(0, two), () -> x.rootTree(0, amended));
        Due.is("10 author", 5, () -> x.author(0, amended));
        Due.is("10 date", 999, () -> x.date(0, amended));
        Due.is("10 the act", 1, () -> x.reflogAct(0, 0));
        Due.is("10 the old one stays present", 2, () -> x.kind(0, two));
        Due.is("10 amend to a commit that is present", amended, () -> x.amend(0, 5, 6));
        Due.index("10 amend nowhere", () -> x.amend(2, 0, 0));
        Due.argument("10 tick 0", () -> x.tick(0, 0));
        Due.argument("10 tick 1000", () -> x.tick(0, 1000));
        for (int i = 0; i < 9; i++) {
            x.tick(0, 999);
        }
        Due.is("10 tick to the last", 9999, () -> x.tick(0, 9));
        Due.state("10 tick above", () -> x.tick(0, 1));
        Due.is("10 the clock stays", 9999, () -> x.clock(0));
        Due.index("10 tick nowhere", () -> x.tick(-1, 1));
        Due.index("10 clock nowhere", () -> x.clock(2));
        Due.is("10 branch", 2, () -> x.branch(0, 5, one));
        Due.state("10 branch is there", () -> x.branch(0, 5, one));
        Due.index("10 branch 6", () -> x.branch(0, 6, one));
        Due.index("10 no commit", () -> x.branch(0, 4, 0));
        x.startBranch(0, 3);
        Due.state("10 HEAD is on it, unborn", () -> x.branch(0, 3, one));
    }

    private static void promise11() {
        VersionWorks x = new VersionWorks();
        int one = commit(x, 0, 1, 1);
        x.branch(0, 1, one);
        int two = commit(x, 0, 2, 2);
        Due.is("11 moveBranch", one, () -> x.moveBranch(0, 1, two));
        Due.is("11 to the same", two, () -> x.moveBranch(0, 1, two));
        Due.state("11 HEAD holds it", () -> x.moveBranch(0, 0, one));
        Due.state("11 not there", () -> x.moveBranch(0, 2, one));
        Due.index("11 no commit", () -> x.moveBranch(0, 1, one - 1));
        Due.index("11 no branch number", () -> x.moveBranch(0, 6, one));
        Due.state("11 delete the head's", () -> x.deleteBranch(0, 0, true));
        Due.state("11 delete none", () -> x.deleteBranch(0, 3, true));
        Due.is("11 delete", two, () -> x.deleteBranch(0, 1, false));
        Due.is("11 deleted", NONE, () -> x.branchAt(0, 1));
        x.branch(0, 1, two);
        x.reset(0, one, 2);
        Due.state("11 no ancestor of the head", () -> x.deleteBranch(0, 1, false));
        Due.index("11 no branch number", () -> x.deleteBranch(0, -1, false));
        Due.is("11 forced", two, () -> x.deleteBranch(0, 1, true));
        x.branch(0, 1, two);
        x.branch(0, 2, two);
        Due.state("11 rename to one that is there", () -> x.renameBranch(0, 1, 2));
        Due.state("11 rename to itself", () -> x.renameBranch(0, 1, 1));
        Due.state("11 rename none", () -> x.renameBranch(0, 3, 4));
        Due.index("11 rename to 6", () -> x.renameBranch(0, 1, 6));
        Due.is("11 rename", two, () -> x.renameBranch(0, 1, 5));
        Due.is("11 renamed", two, () -> x.branchAt(0, 5));
        Due.is("11 not there any more", NONE, () -> x.branchAt(0, 1));
        Due.is("11 rename the head's", one, () -> x.renameBranch(0, 0, 3));
        Due.is("11 HEAD goes with it", 3, () -> x.headBranch(0));
        Due.is("11 startBranch", one, () -> x.startBranch(0, 0));
        Due.is("11 unborn", NONE, () -> x.head(0));
        Due.is("11 on it", 0, () -> x.headBranch(0));
        Due.is("11 the file stays", 1, () -> x.fileLines(0, 0));
        Due.is("11 the index stays", 0, () -> x.indexed(0, 0));
        Due.is("11 again, from unborn", NONE, () -> x.startBranch(0, 1));
        Due.state("11 rename to where HEAD is, unborn", () -> x.renameBranch(0, 5, 1));
        Due.state("11 the branch is there", () -> x.startBranch(0, 5));
        Due.index("11 start 6", () -> x.startBranch(0, 6));
        Due.state("11 not forced without a head commit", () -> x.deleteBranch(0, 5, false));
        Due.is("11 reflog: one commit, another, a reset", 3, () -> x.reflog(0));
        int root = x.commit(0, 1, 3);
        Due.is("11 born without a parent", NONE, () -> x.parent(0, root, 0));
        Due.is("11 born", root, () -> x.branchAt(0, 1));
    }

    private static void promise12() {
        VersionWorks x = new VersionWorks();
        int one = commit(x, 0, 1, 1);
        x.branch(0, 1, one);
        x.write(0, 4, 4);
        int two = commit(x, 0, 2, 2);
        x.write(0, 9, 9);
        Due.is("12 switch", one, () -> x.switchTo(0, 1));
        Due.is("12 the file is carried", 1, () -> x.fileLine(0, 0, 0));
        Due.is("12 the file of the other snapshot goes", NONE, () -> x.fileLines(0, 4));
        Due.is("12 other files stay", 1, () -> x.fileLines(0, 9));
        Due.is("12 the act", 2, () -> x.reflogAct(0, 0));
        Due.is("12 also if HEAD was there", one, () -> x.switchTo(0, 1));
        Due.is("12 an entry for it", 4, () -> x.reflog(0));
        x.write(0, 0, 5);
        Due.state("12 the file is not as the index", () -> x.switchTo(0, 0));
        x.add(0, 0);
        Due.state("12 neither free nor settled", () -> x.detach(0, two));
        x.write(0, 0, 2);
        x.add(0, 0);
        x.write(0, 0, 77);
        Due.is("12 settled: it stays", two, () -> x.switchTo(0, 0));
        Due.is("12 the file stays as it is", 7, () -> x.fileLine(0, 0, 0));
        Due.is("12 free at the other path", 1, () -> x.fileLines(0, 4));
        x.restore(0, 0);
        Due.state("12 not there", () -> x.switchTo(0, 2));
        Due.index("12 no branch number", () -> x.switchTo(0, 6));
        Due.is("12 detach", two, () -> x.detach(0, one));
        Due.is("12 detached", NONE, () -> x.headBranch(0));
        Due.is("12 the head", one, () -> x.head(0));
        x.write(0, 4, 8);
        Due.state("12 a file where the old snapshot has nothing", () -> x.switchTo(0, 0));
        x.write(0, 4, 4);
        Due.state("12 whatever its lines are", () -> x.switchTo(0, 0));
        Due.index("12 detach at a tree", () -> x.detach(0, one - 1));
        x.removeFile(0, 4);

        Due.is("12 reset soft", one, () -> x.reset(0, two, 0));
        Due.is("12 HEAD detached is at it", two, () -> x.head(0));
        Due.is("12 branches stay", one, () -> x.branchAt(0, 1));
        Due.is("12 the index stays", 0, () -> x.indexed(0, 0));
        Due.is("12 act", 3, () -> x.reflogAct(0, 0));
        Due.is("12 reset mixed", two, () -> x.reset(0, two, 1));
        Due.is("12 the index has the snapshot", x.blobAt(0, two, 0), () -> x.indexed(0, 0));
        Due.is("12 the files stay", 1, () -> x.fileLine(0, 0, 0));
        x.write(0, 0, 99);
        Due.is("12 reset hard", two, () -> x.reset(0, one, 2));
        Due.is("12 forced file", 1, () -> x.fileLine(0, 0, 0));
        Due.is("12 tracked before, gone", NONE, () -> x.fileLines(0, 4));
        Due.is("12 not tracked, stays", 1, () -> x.fileLines(0, 9));
        Due.argument("12 how 3", () -> x.reset(0, one, 3));
        Due.index("12 commit ahead of how", () -> x.reset(0, 0, 3));
        Due.is("12 tag", 1, () -> x.tag(0, 5, one));
        Due.is("12 tags", 2, () -> x.tag(0, 0, two));
        Due.state("12 tag is there", () -> x.tag(0, 5, two));
        Due.index("12 tag 6", () -> x.tag(0, 6, two));
        Due.index("12 tag of a blob", () -> x.tag(0, 1, 0));
        x.startBranch(0, 4);
        Due.is("12 reset of an unborn branch", NONE, () -> x.reset(0, one, 2));
        Due.is("12 it is there then", one, () -> x.branchAt(0, 4));
    }

    private static void promises13to15() {
        VersionWorks x = new VersionWorks();
        int one = commit(x, 0, 1, 1);
        Due.is("13 annotate", one + 1, () -> x.annotate(0, 0, one, 7));
        Due.state("13 tag is there", () -> x.annotate(0, 0, one, 7));
        Due.argument("13 message 100", () -> x.annotate(0, 0, one, 100));
        Due.index("13 no commit", () -> x.annotate(0, 1, one + 1, 100));
        Due.is("13 the same is one object", one + 1, () -> x.annotate(0, 3, one, 7));
        Due.is("13 deleteTag", one + 1, () -> x.deleteTag(0, 0));
        Due.state("13 delete again", () -> x.deleteTag(0, 0));
        Due.index("13 delete 6", () -> x.deleteTag(0, 6));
        Due.is("14 tagAt", one + 1, () -> x.tagAt(0, 3));
        Due.is("14 tagAt none", NONE, () -> x.tagAt(0, 0));
        Due.index("14 tagAt 6", () -> x.tagAt(0, 6));
        Due.index("14 branchAt -1", () -> x.branchAt(0, -1));
        Due.index("14 trackAt 6", () -> x.trackAt(0, 6));
        Due.index("13 head nowhere", () -> x.head(2));
        Due.index("13 headBranch nowhere", () -> x.headBranch(2));
        x.tick(0, 3);
        x.reset(0, one, 0);
        Due.is("14 reflog", 2, () -> x.reflog(0));
        Due.is("15 commit", one, () -> x.reflogCommit(0, 0));
        Due.is("15 act", 3, () -> x.reflogAct(0, 0));
        Due.is("15 date", 3, () -> x.reflogDate(0, 0));
        Due.is("15 older act", 0, () -> x.reflogAct(0, 1));
        Due.is("15 older date", 0, () -> x.reflogDate(0, 1));
        Due.index("15 no such entry", () -> x.reflogCommit(0, 2));
        Due.index("15 no such entry", () -> x.reflogAct(0, -1));
        Due.index("15 no such entry", () -> x.reflogDate(0, 2));
        Due.index("14 reflog nowhere", () -> x.reflog(-1));
    }

    private static void reflogLimit() {
        VersionWorks x = new VersionWorks();
        int one = commit(x, 0, 1, 1);
        for (int i = 0; i < 29; i++) {
            x.tick(0, 1);
            x.reset(0, one, 0);
        }
        Due.is("14 thirty entries", 30, () -> x.reflog(0));
        Due.is("14 the oldest is the commit", 0, () -> x.reflogAct(0, 29));
        x.reset(0, one, 0);
        Due.is("14 at most thirty", 30, () -> x.reflog(0));
        Due.is("14 the oldest was dropped", 3, () -> x.reflogAct(0, 29));
        Due.is("14 its date", 1, () -> x.reflogDate(0, 29));
    }

    private static void type(VersionWorks x, String text) {
        x.clearText();
        for (char c : text.toCharArray()) {
            x.type(c);
        }
    }

    /** A row 1 <- 2 <- 3 with a side 1 <- 4, and 5 a merge of 3 and 4; tag 1 at 2 by a tag object. */
    private static void promises15to17() {
        VersionWorks x = new VersionWorks();
        Due.argument("15 type 32", () -> x.type(32));
        Due.argument("15 type 127", () -> x.type(127));
        Due.is("15 type 33", 1, () -> x.type(33));
        Due.is("16 fault at once", 0, () -> x.fault());
        Due.is("16 clearText", 1, () -> x.clearText());
        Due.is("16 clear again", 0, () -> x.clearText());
        for (int i = 0; i < 60; i++) {
            x.type(i == 0 ? 'H' : '^');
        }
        Due.state("15 has 60", () -> x.type('^'));
        Due.argument("15 range ahead of 60", () -> x.type(0));
        Due.is("16 no fault", NONE, () -> x.fault());
        String[][] faults = {
            {"", "0"}, {"H", "-1"}, {"H@", "2"}, {"H@1", "-1"}, {"H@12", "-1"}, {"H@123", "4"}, {"B", "1"}, {"B6", "1"},
            {"B5", "-1"}, {"B12", "2"}, {"T0~", "-1"}, {"R0~99", "-1"}, {"R0~999", "5"}, {"H^0", "-1"}, {"H^3", "2"},
            {"H^12", "3"}, {"H^^2~1^", "-1"}, {"H.", "2"}, {"H..", "3"}, {"H...", "4"}, {"H....", "4"}, {"H..B1", "-1"},
            {"H...B1", "-1"}, {"H.B", "2"}, {"H..B1.", "5"}, {"H..B1..H", "5"}, {"~1", "0"}, {"HH", "1"}, {"H~@", "2"},
            {"B1@0", "2"}, {"h", "0"}, {"H..~", "3"},
        };
        for (String[] f : faults) {
            type(x, f[0]);
            Due.is("16 fault of " + f[0], f[1], () -> x.fault());
        }
        int[] c = new int[6];
        c[1] = commit(x, 0, 1, 1);
        x.branch(0, 1, c[1]);
        c[2] = commit(x, 0, 2, 2);
        c[3] = commit(x, 0, 3, 3);
        x.annotate(0, 1, c[2], 1);
        x.switchTo(0, 1);
        c[4] = commit(x, 4, 4, 4);
        x.switchTo(0, 0);
        x.merge(0, c[4], 0, 0, 1, 5);
        c[5] = x.head(0);
        Object[][] named = {
            {"H", 5}, {"H^", 3}, {"H^1", 3}, {"H^2", 4}, {"H^0", 5}, {"H~", 3}, {"H~2", 2}, {"H~0", 5}, {"H~3", 1},
            {"H~4", 0}, {"H^2~1", 1}, {"H^2^2", 0}, {"B1", 4}, {"B2", 0}, {"T1", 2}, {"T1^", 1}, {"T0", 0}, {"R0", 0},
            {"H@0", 5}, {"H@1", 3}, {"H@2", 4}, {"H@3", 1}, {"H@99", 0}, {"H~99", 0}, {"H@1~2", 1},
        };
        for (Object[] n : named) {
            type(x, (String) n[0]);
            int want = (Integer) n[1];
            Due.is("16 resolve " + n[0], want == 0 ? Due.STATE : c[want], () -> x.resolve(0));
        }
        type(x, "H..B1");
        Due.state("16 two revisions", () -> x.resolve(0));
        Due.is("16 the second, not the first", 0, () -> x.list(0));
        Due.is("17 no more than place", NONE, () -> x.listed(0, 0));
        Due.index("17 below 0", () -> x.listed(0, -1));
        type(x, "B1..H");
        Due.is("16 list", 3, () -> x.list(0));
        Due.is("17 newest first", c[5], () -> x.listed(0, 0));
        Due.is("17 then", c[3], () -> x.listed(0, 1));
        Due.is("17 last", c[2], () -> x.listed(0, 2));
        Due.is("17 no more", NONE, () -> x.listed(0, 3));
        Due.is("17 no more, most", NONE, () -> x.listed(0, Integer.MAX_VALUE));
        type(x, "H~1...B1");
        Due.is("16 of one, not of both", 3, () -> x.list(0));
        Due.is("17 the greatest number of one date", c[4], () -> x.listed(0, 0));
        type(x, "B1");
        Due.is("16 all ancestors", 2, () -> x.list(0));
        type(x, "B1..B3");
        Due.state("16 names none", () -> x.list(0));
        Due.state("17 names none", () -> x.listed(0, 0));
        type(x, "B1.");
        Due.state("16 list with a fault", () -> x.list(0));
        Due.state("16 resolve with a fault", () -> x.resolve(0));
        Due.index("16 repository ahead of the fault", () -> x.resolve(2));
        Due.index("16 repository ahead of the fault", () -> x.list(2));
        type(x, "H");
        Due.state("16 nothing in the other repository", () -> x.resolve(1));
    }

    /** A criss-cross: a and b of the root, then x1 = a with b, x2 = b with a. */
    private static void promises17to18() {
        VersionWorks x = new VersionWorks();
        x.write(0, 0, 1234567);
        int root = commit(x, 5, 5, 1);
        x.branch(0, 1, root);
        x.tick(0, 1);
        int a = commit(x, 0, 9234567, 2);
        x.switchTo(0, 1);
        int b = commit(x, 0, 1234569, 3);
        x.merge(0, a, 0, 0, 1, 4);
        int two = x.head(0);
        x.switchTo(0, 0);
        x.merge(0, b, 0, 0, 1, 5);
        int one = x.head(0);
        Due.is("17 isAncestor", 1, () -> x.isAncestor(0, root, one) ? 1 : 0);
        Due.is("17 its own", 1, () -> x.isAncestor(0, one, one) ? 1 : 0);
        Due.is("17 not the other way", 0, () -> x.isAncestor(0, one, root) ? 1 : 0);
        Due.is("17 not beside", 0, () -> x.isAncestor(0, one, two) ? 1 : 0);
        Due.index("17 no commit", () -> x.isAncestor(0, root, 0) ? 1 : 0);
        Due.is("17 generation", 1, () -> x.generation(0, root));
        Due.is("17 generation of a merge", 3, () -> x.generation(0, one));
        Due.index("17 generation of a blob", () -> x.generation(0, 0));
        Due.is("17 bases", 2, () -> x.bases(0, one, two));
        Due.is("18 base, newest first", b, () -> x.base(0, one, two, 0));
        Due.is("18 base", a, () -> x.base(0, one, two, 1));
        Due.index("18 no such base", () -> x.base(0, one, two, 2));
        Due.is("17 one base of a line", 1, () -> x.bases(0, one, a));
        Due.is("18 that is the one", a, () -> x.base(0, one, a, 0));
        Due.is("17 base of two sides", root, () -> x.base(0, a, b, 0));
        Due.index("17 bases of a tree", () -> x.bases(0, one, a - 1));
        Due.is("18 ahead", 2, () -> x.ahead(0, one, a));
        Due.is("18 not ahead", 0, () -> x.ahead(0, a, one));
        Due.is("18 ahead of itself", 0, () -> x.ahead(0, a, a));
        Due.index("18 ahead of none", () -> x.ahead(0, a, -1));
        Due.is("18 no tag", NONE, () -> x.describe(0, one));
        x.tag(0, 3, root);
        Due.is("18 describe", 3, () -> x.describe(0, one));
        x.tag(0, 5, a);
        Due.is("18 by the fewest", 5, () -> x.describe(0, one));
        Due.is("18 no ancestor", 3, () -> x.describe(0, b));
        x.annotate(0, 4, b, 1);
        Due.is("18 of several the least number", 4, () -> x.describe(0, one));
        x.tag(0, 0, one);
        Due.is("18 itself", 0, () -> x.describe(0, one));
        Due.index("18 describe a blob", () -> x.describe(0, 0));
        Due.is("18 containing", 3, () -> x.containing(0, root));
        Due.is("18 containing the head of one", 1, () -> x.containing(0, one));
        Due.is("18 containing the head of the other", 2, () -> x.containing(0, two));
        Due.index("18 containing none", () -> x.containing(0, -5));
        int older = x.base(0, one, two, 1);
        x.tick(0, 1);
        x.detach(0, b);
        int late = commit(x, 8, 8, 9);
        x.tag(0, 1, late);
        x.merge(0, one, 1, 0, 0, 0);
        x.deleteTag(0, 0);
        x.tag(0, 2, one);
        Due.yes("18 both are ancestors", x.isAncestor(0, late, x.head(0)) && older == a);
        Due.is("18 ahead of the late one", 3, () -> x.ahead(0, x.head(0), late));
        Due.is("18 ahead of the other", 2, () -> x.ahead(0, x.head(0), one));
        Due.is("18 the fewest ahead of the date", 2, () -> x.describe(0, x.head(0)));
    }

    /** Commits whose clock went on by different steps: the list goes by children first, then by dates. */
    private static void listOrder() {
        VersionWorks x = new VersionWorks();
        int root = commit(x, 0, 1, 0);
        x.branch(0, 1, root);
        x.tick(0, 5);
        int late = commit(x, 0, 2, 0);
        // The same commit made in the other repository, where the clock is at 0, is older than its parent.
        x.fetch(1, 240);
        x.reset(1, x.trackAt(1, 0), 2);
        x.write(1, 4, 4);
        x.addAll(1);
        int early = x.commit(1, 1, 1);
        Due.is("the date is the clock", 0, () -> x.date(1, early));
        Due.is("the parent's date is greater", 5, () -> x.date(1, x.parent(1, early, 0)));
        type(x, "H");
        Due.is("no commit behind its ancestor", early, () -> x.listed(1, 0));
        Due.is("then its parent", x.twin(0, late), () -> x.listed(1, 1));
        x.switchTo(0, 1);
        x.tick(0, 1);
        int side = commit(x, 8, 8, 0);
        type(x, "B0...B1");
        Due.is("the greatest date first", side, () -> x.listed(0, 0));
        Due.is("then the other", late, () -> x.listed(0, 1));
    }
}
