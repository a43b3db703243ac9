import java.util.Arrays;

/**
 * A version control system in the manner of Git: two repositories that exchange commits by fetch and push.
 *
 * The face checks its arguments and throws; the classes inside never throw, but answer REFUSED, so that rehearse()
 * can call them without exceptions. All rows are made once, in the constructors, as a run has one room for all calls.
 */
public final class VersionWorks {
    /** There is none. */
    public static final int NONE = -1;

    /** The answer of a part where the face has to throw an IllegalStateException. */
    private static final int REFUSED = -2;

    private static final int PATHS = 16;
    private static final int REFS = 6;
    private static final int STAGES = 3;
    private static final int MOST_LINES = 60;
    private static final int MOST_OBJECTS = 240;
    /** One slot more than numbers: an object is drafted behind the last number, also when none is left. */
    private static final int SLOTS = 241;
    private static final int PARTS = 4;
    private static final int WORDS = 4;
    private static final int MOST_TEXT = 60;
    private static final int MOST_LOG = 30;
    private static final int LOG_FACTS = 3;
    private static final int MOST_STASHES = 6;
    private static final int LAST_TIME = 9999;
    private static final int DEEPEST_BASE = 3;
    private static final int DEEPEST_DELTA = 8;
    private static final int TOLD_A_ROUND = 4;

    private static final int BLOB = 0;
    private static final int TREE = 1;
    private static final int COMMIT = 2;
    private static final int TAG = 3;

    private static final int ACT_COMMIT = 0;
    private static final int ACT_AMEND = 1;
    private static final int ACT_SWITCH = 2;
    private static final int ACT_RESET = 3;
    private static final int ACT_MERGE = 4;
    private static final int ACT_REBASE = 7;
    private static final int ACT_PUSH = 8;

    /** The act of an operation is its number and this, together. */
    private static final int ACT_OF_OPERATION = 3;

    private static final int MERGE = 1;
    private static final int PICK = 2;
    private static final int REVERT = 3;
    private static final int REBASE = 4;

    private static final int UNTOUCHED = 0;
    private static final int FORWARD = 1;
    private static final int MADE = 2;
    private static final int STOPPED = 3;

    private static final int BROKEN = 0;
    private static final int THROUGH = 1;

    private static final int TEXT_START = 0;
    private static final int TEXT_NUMBER = 1;
    private static final int TEXT_AT = 2;
    private static final int TEXT_DOT = 3;
    private static final int TEXT_DOTS = 4;
    private static final int TEXT_HEAD = 5;
    private static final int TEXT_ONE_DIGIT = 6;
    private static final int TEXT_TILDE = 7;
    private static final int TEXT_CARET = 8;
    private static final int TEXT_WHOLE = 9;

    private final Repo first = new Repo();
    private final Repo second = new Repo();
    private final Tracer tracer = new Tracer();
    private final Packs packs = new Packs();
    private final Transfer transfer = new Transfer();
    private final Diff diff = new Diff();
    private final int[] text = new int[MOST_TEXT];
    private int textLength;
    private int chance;
    private final long[] set = new long[WORDS];
    private final long[] otherSet = new long[WORDS];
    private final int[] row = new int[SLOTS];

    public VersionWorks() {
        textLength = 0;
        chance = 0;
    }

    // ---- 1 working files

    public int write(int repo, int path, long digits) throws IndexOutOfBoundsException, IllegalArgumentException {
        Repo here = atPath(repo, path);
        if (!areLines(digits)) {
            throw new IllegalArgumentException();
        }
        return here.desk.files.putDigits(path, digits);
    }

    public int insertLine(int repo, int path, int place, int line)
            throws IndexOutOfBoundsException, IllegalArgumentException, IllegalStateException {
        Snap files = atPath(repo, path).desk.files;
        needPlace(place, Math.max(files.lengths[path], 0) + 1);
        needRange(line, 1, 99);
        return allowed(files.insert(path, place, line));
    }

    public int deleteLine(int repo, int path, int place) throws IndexOutOfBoundsException {
        Snap files = atPath(repo, path).desk.files;
        needPlace(place, files.lengths[path]);
        return files.delete(path, place);
    }

    public int removeFile(int repo, int path) throws IndexOutOfBoundsException, IllegalStateException {
        Snap files = atPath(repo, path).desk.files;
        int length = files.lengths[path];
        allowIf(length != NONE);
        files.lengths[path] = NONE;
        return length;
    }

    public int moveFile(int repo, int path, int other) throws IndexOutOfBoundsException, IllegalStateException {
        Snap files = atPath(repo, path).desk.files;
        needPlace(other, PATHS);
        allowIf(files.lengths[path] != NONE && files.lengths[other] == NONE);
        files.put(other, files.lines, path * MOST_LINES, files.lengths[path]);
        files.lengths[path] = NONE;
        return files.lengths[other];
    }

    public int fileLines(int repo, int path) throws IndexOutOfBoundsException {
        return atPath(repo, path).desk.files.lengths[path];
    }

    public int fileLine(int repo, int path, int place) throws IndexOutOfBoundsException {
        Snap files = atPath(repo, path).desk.files;
        needPlace(place, files.lengths[path]);
        return files.lines[path * MOST_LINES + place];
    }

    public boolean ignore(int repo, int path, boolean ignored) throws IndexOutOfBoundsException {
        Desk desk = atPath(repo, path).desk;
        boolean before = hasBit(desk.ignored, path);
        desk.ignored = ignored ? desk.ignored | 1 << path : desk.ignored & ~(1 << path);
        return before;
    }

    public int clean(int repo) throws IndexOutOfBoundsException {
        Desk desk = at(repo).desk;
        int cleaned = 0;
        for (int path = 0; path < PATHS; path++) {
            if (desk.files.lengths[path] != NONE && !desk.isTracked(path) && !hasBit(desk.ignored, path)) {
                desk.files.lengths[path] = NONE;
                cleaned++;
            }
        }
        return cleaned;
    }

    // ---- 2 objects

    public int objects(int repo) throws IndexOutOfBoundsException {
        return at(repo).store.count;
    }

    public int kind(int repo, int object) throws IndexOutOfBoundsException {
        Store store = at(repo).store;
        needPlace(object, store.count);
        return store.kinds[object];
    }

    public int stamp(int repo, int object) throws IndexOutOfBoundsException {
        return atObject(repo, object).store.stamps[object];
    }

    public int blobLines(int repo, int blob) throws IndexOutOfBoundsException {
        return atKind(repo, blob, BLOB).store.lengths[blob];
    }

    public int blobLine(int repo, int blob, int place) throws IndexOutOfBoundsException {
        Store store = atKind(repo, blob, BLOB).store;
        needPlace(place, store.lengths[blob]);
        return store.lines[blob * MOST_LINES + place];
    }

    public int entry(int repo, int tree, int place) throws IndexOutOfBoundsException {
        Store store = atKind(repo, tree, TREE).store;
        needPlace(place, PARTS);
        return store.part(tree, place);
    }

    public int rootTree(int repo, int commit) throws IndexOutOfBoundsException {
        return atKind(repo, commit, COMMIT).store.part(commit, 0);
    }

    public int parent(int repo, int commit, int place) throws IndexOutOfBoundsException {
        Store store = atKind(repo, commit, COMMIT).store;
        needPlace(place, 2);
        return store.part(commit, place + 1);
    }

    public int author(int repo, int commit) throws IndexOutOfBoundsException {
        return atKind(repo, commit, COMMIT).store.authors[commit];
    }

    public int date(int repo, int object) throws IndexOutOfBoundsException {
        return atDated(repo, object).store.dates[object];
    }

    public int message(int repo, int object) throws IndexOutOfBoundsException {
        return atDated(repo, object).store.messages[object];
    }

    public int tagged(int repo, int tagObject) throws IndexOutOfBoundsException {
        return atKind(repo, tagObject, TAG).store.part(tagObject, 0);
    }

    public int blobAt(int repo, int commit, int path) throws IndexOutOfBoundsException {
        Store store = atKind(repo, commit, COMMIT).store;
        needPlace(path, PATHS);
        return store.blobOf(commit, path);
    }

    public int twin(int repo, int object) throws IndexOutOfBoundsException {
        Repo here = atObject(repo, object);
        return transfer.twinOf(here.store, at(1 - repo).store, object);
    }

    // ---- 3 index and commits

    public int add(int repo, int path) throws IndexOutOfBoundsException, IllegalStateException {
        return allowed(atPath(repo, path).addPath(path));
    }

    public int addAll(int repo) throws IndexOutOfBoundsException, IllegalStateException {
        return allowed(at(repo).addEvery());
    }

    public int unstage(int repo, int path) throws IndexOutOfBoundsException {
        Repo here = atPath(repo, path);
        int blob = here.store.blobOf(here.state.headCommit(), path);
        here.desk.setEntry(path, blob);
        return blob;
    }

    public int restore(int repo, int path) throws IndexOutOfBoundsException, IllegalStateException {
        Repo here = atPath(repo, path);
        int blob = here.desk.entries[path];
        allowIf(blob != NONE);
        here.desk.files.putBlob(path, here.store, blob);
        return here.desk.files.lengths[path];
    }

    public int indexed(int repo, int path) throws IndexOutOfBoundsException {
        return atPath(repo, path).desk.entries[path];
    }

    public int stage(int repo, int path, int stage) throws IndexOutOfBoundsException {
        Desk desk = atPath(repo, path).desk;
        needPlace(stage, STAGES);
        return desk.stages[path * STAGES + stage];
    }

    public int staged(int repo, int path) throws IndexOutOfBoundsException {
        Repo here = atPath(repo, path);
        if (hasBit(here.desk.conflicts, path)) {
            return 4;
        }
        int inIndex = here.desk.entries[path];
        int inHead = here.store.blobOf(here.state.headCommit(), path);
        if (inIndex == inHead) {
            return 0;
        }
        return inHead == NONE ? 1 : inIndex == NONE ? 3 : 2;
    }

    public int unstaged(int repo, int path) throws IndexOutOfBoundsException {
        Repo here = atPath(repo, path);
        if (hasBit(here.desk.conflicts, path)) {
            return 4;
        }
        if (here.fileAsIndex(path)) {
            return 0;
        }
        if (here.desk.entries[path] == NONE) {
            return 1;
        }
        return here.desk.files.lengths[path] == NONE ? 3 : 2;
    }

    public int commit(int repo, int author, int message)
            throws IndexOutOfBoundsException, IllegalArgumentException, IllegalStateException {
        Repo here = at(repo);
        needAuthor(author, message);
        return allowed(here.commitIndex(author, message));
    }

    public int amend(int repo, int author, int message)
            throws IndexOutOfBoundsException, IllegalArgumentException, IllegalStateException {
        Repo here = at(repo);
        needAuthor(author, message);
        return allowed(here.amendHead(author, message));
    }

    // ---- 4 refs

    public int tick(int repo, int n) throws IndexOutOfBoundsException, IllegalArgumentException, IllegalStateException {
        Repo here = at(repo);
        needRange(n, 1, 999);
        return allowed(here.state.passTime(n));
    }

    public int clock(int repo) throws IndexOutOfBoundsException {
        return at(repo).state.clock;
    }

    public int branch(int repo, int branch, int commit) throws IndexOutOfBoundsException, IllegalStateException {
        State state = atKind(repo, commit, COMMIT).state;
        needPlace(branch, REFS);
        return allowed(state.makeBranch(branch, commit));
    }

    public int moveBranch(int repo, int branch, int commit) throws IndexOutOfBoundsException, IllegalStateException {
        State state = atKind(repo, commit, COMMIT).state;
        needPlace(branch, REFS);
        int before = state.branches[branch];
        allowIf(before != NONE && !state.isHeld(branch));
        state.branches[branch] = commit;
        return before;
    }

    public int deleteBranch(int repo, int branch, boolean forced)
            throws IndexOutOfBoundsException, IllegalStateException {
        Repo here = atRef(repo, branch);
        int before = here.state.branches[branch];
        allowIf(before != NONE && !here.state.isHeld(branch));
        allowIf(forced || here.store.reaches(here.state.headCommit(), before));
        here.state.branches[branch] = NONE;
        return before;
    }

    public int renameBranch(int repo, int branch, int other) throws IndexOutOfBoundsException, IllegalStateException {
        State state = atRef(repo, branch).state;
        needPlace(other, REFS);
        int commit = state.branches[branch];
        allowIf(commit != NONE && state.branches[other] == NONE && state.headOn != other);
        allowIf(!state.isRebased(branch) && !state.isRebased(other));
        state.branches[other] = commit;
        state.branches[branch] = NONE;
        if (state.headOn == branch) {
            state.headOn = other;
        }
        return commit;
    }

    public int startBranch(int repo, int branch) throws IndexOutOfBoundsException, IllegalStateException {
        Repo here = atRef(repo, branch);
        allowIf(!here.state.isBusy() && here.state.branches[branch] == NONE && here.desk.conflicts == 0);
        int before = here.state.headCommit();
        here.state.headOn = branch;
        here.state.headAt = NONE;
        return before;
    }

    public int switchTo(int repo, int branch) throws IndexOutOfBoundsException, IllegalStateException {
        return allowed(atRef(repo, branch).switchHead(branch));
    }

    public int detach(int repo, int commit) throws IndexOutOfBoundsException, IllegalStateException {
        Repo here = atKind(repo, commit, COMMIT);
        int before = here.state.headCommit();
        allowIf(here.canGo(commit));
        here.carry(before, commit);
        here.state.detachAt(commit, ACT_SWITCH);
        return before;
    }

    public int reset(int repo, int commit, int how)
            throws IndexOutOfBoundsException, IllegalArgumentException, IllegalStateException {
        Repo here = atKind(repo, commit, COMMIT);
        needRange(how, 0, 2);
        allowIf(!here.state.isBusy() && (how != 0 || here.desk.conflicts == 0));
        int before = here.state.headCommit();
        here.state.moveHead(commit, ACT_RESET);
        if (how == 1) {
            here.indexSnapshot(commit);
        } else if (how == 2) {
            here.force(commit);
        }
        return before;
    }

    public int tag(int repo, int tag, int commit) throws IndexOutOfBoundsException, IllegalStateException {
        State state = atKind(repo, commit, COMMIT).state;
        needPlace(tag, REFS);
        allowIf(state.tags[tag] == NONE);
        state.tags[tag] = commit;
        return countThere(state.tags);
    }

    public int annotate(int repo, int tag, int commit, int message)
            throws IndexOutOfBoundsException, IllegalArgumentException, IllegalStateException {
        Repo here = atKind(repo, commit, COMMIT);
        needPlace(tag, REFS);
        needRange(message, 0, 99);
        return allowed(here.annotateCommit(tag, commit, message));
    }

    public int deleteTag(int repo, int tag) throws IndexOutOfBoundsException, IllegalStateException {
        State state = atRef(repo, tag).state;
        int before = state.tags[tag];
        allowIf(before != NONE);
        state.tags[tag] = NONE;
        return before;
    }

    public int head(int repo) throws IndexOutOfBoundsException {
        return at(repo).state.headCommit();
    }

    public int headBranch(int repo) throws IndexOutOfBoundsException {
        return at(repo).state.headOn;
    }

    public int branchAt(int repo, int branch) throws IndexOutOfBoundsException {
        return atRef(repo, branch).state.branches[branch];
    }

    public int tagAt(int repo, int tag) throws IndexOutOfBoundsException {
        return atRef(repo, tag).state.tags[tag];
    }

    public int trackAt(int repo, int track) throws IndexOutOfBoundsException {
        return atRef(repo, track).state.tracks[track];
    }

    public int reflog(int repo) throws IndexOutOfBoundsException {
        return at(repo).state.logCount;
    }

    public int reflogCommit(int repo, int place) throws IndexOutOfBoundsException {
        return atLog(repo, place).log[place * LOG_FACTS];
    }

    public int reflogAct(int repo, int place) throws IndexOutOfBoundsException {
        return atLog(repo, place).log[place * LOG_FACTS + 1];
    }

    public int reflogDate(int repo, int place) throws IndexOutOfBoundsException {
        return atLog(repo, place).log[place * LOG_FACTS + 2];
    }

    // ---- 5 history and revisions

    public int type(int character) throws IllegalArgumentException, IllegalStateException {
        needRange(character, 33, 126);
        allowIf(textLength < MOST_TEXT);
        text[textLength] = character;
        textLength++;
        return textLength;
    }

    public int clearText() {
        int before = textLength;
        textLength = 0;
        return before;
    }

    public int fault() {
        return textFault();
    }

    public int resolve(int repo) throws IndexOutOfBoundsException, IllegalStateException {
        Repo here = at(repo);
        allowIf(textFault() == NONE && firstDot() == textLength);
        int commit = namedCommit(here, 0, textLength);
        allowIf(commit != NONE);
        return commit;
    }

    public int list(int repo) throws IndexOutOfBoundsException, IllegalStateException {
        return allowed(listText(at(repo)));
    }

    public int listed(int repo, int place) throws IndexOutOfBoundsException, IllegalStateException {
        Repo here = at(repo);
        if (place < 0) {
            throw new IndexOutOfBoundsException();
        }
        int count = allowed(listText(here));
        return place < count ? row[place] : NONE;
    }

    public boolean isAncestor(int repo, int commit, int other) throws IndexOutOfBoundsException {
        return atCommits(repo, commit, other).store.reaches(other, commit);
    }

    public int generation(int repo, int commit) throws IndexOutOfBoundsException {
        Store store = atKind(repo, commit, COMMIT).store;
        store.countGenerations(row);
        return row[commit];
    }

    public int bases(int repo, int commit, int other) throws IndexOutOfBoundsException {
        return listBases(atCommits(repo, commit, other).store, commit, other);
    }

    public int base(int repo, int commit, int other, int place) throws IndexOutOfBoundsException {
        int count = listBases(atCommits(repo, commit, other).store, commit, other);
        needPlace(place, count);
        return row[place];
    }

    public int ahead(int repo, int commit, int other) throws IndexOutOfBoundsException {
        return atCommits(repo, commit, other).store.countAhead(commit, other);
    }

    public int describe(int repo, int commit) throws IndexOutOfBoundsException {
        return atKind(repo, commit, COMMIT).describingTag(commit);
    }

    public int containing(int repo, int commit) throws IndexOutOfBoundsException {
        Repo here = atKind(repo, commit, COMMIT);
        int bits = 0;
        for (int branch = 0; branch < REFS; branch++) {
            if (here.store.reaches(here.state.branches[branch], commit)) {
                bits |= 1 << branch;
            }
        }
        return bits;
    }

    // ---- 6 differences and blame

    public int diffSize(int repo, int from, int to) throws IndexOutOfBoundsException {
        compareRows(repo, from, to);
        return diff.olderLength + diff.newerLength - 2 * diff.pairs;
    }

    public int diffPair(int repo, int from, int to, int place) throws IndexOutOfBoundsException {
        compareRows(repo, from, to);
        needPlace(place, diff.olderLength);
        return diff.newerOf[place];
    }

    public int hunks(int repo, int from, int to, int context)
            throws IndexOutOfBoundsException, IllegalArgumentException {
        compareRows(repo, from, to);
        needRange(context, 0, 9);
        return diff.findHunks(context);
    }

    public int hunkStart(int repo, int from, int to, int context, int hunk, boolean newer)
            throws IndexOutOfBoundsException {
        findHunk(repo, from, to, context, hunk);
        return diff.hunkFacts[hunk * 4 + (newer ? 1 : 0)];
    }

    public int hunkLength(int repo, int from, int to, int context, int hunk, boolean newer)
            throws IndexOutOfBoundsException {
        findHunk(repo, from, to, context, hunk);
        return diff.hunkFacts[hunk * 4 + (newer ? 3 : 2)];
    }

    public int likeness(int repo, int blob, int other) throws IndexOutOfBoundsException {
        Repo here = atKind(repo, blob, BLOB);
        needKind(here, other, BLOB);
        return diff.likenessOf(here.store, blob, other);
    }

    public int changed(int repo, int from, int to) throws IndexOutOfBoundsException {
        Repo here = at(repo);
        needKindOrNone(here, from, COMMIT);
        needKindOrNone(here, to, COMMIT);
        int bits = 0;
        for (int path = 0; path < PATHS; path++) {
            if (here.store.blobOf(from, path) != here.store.blobOf(to, path)) {
                bits |= 1 << path;
            }
        }
        return bits;
    }

    public int renamedFrom(int repo, int from, int to, int path, int limit)
            throws IndexOutOfBoundsException, IllegalArgumentException {
        Store store = atCommits(repo, from, to).store;
        needPlace(path, PATHS);
        needRange(limit, 1, 100);
        tracer.findRenames(store, from, to, limit);
        return tracer.sources[path];
    }

    public int blame(int repo, int commit, int path, int place, int limit)
            throws IndexOutOfBoundsException, IllegalArgumentException {
        traceLine(repo, commit, path, place, limit);
        return tracer.atCommit;
    }

    public int blamePath(int repo, int commit, int path, int place, int limit)
            throws IndexOutOfBoundsException, IllegalArgumentException {
        traceLine(repo, commit, path, place, limit);
        return tracer.atPath;
    }

    public int blamePlace(int repo, int commit, int path, int place, int limit)
            throws IndexOutOfBoundsException, IllegalArgumentException {
        traceLine(repo, commit, path, place, limit);
        return tracer.atPlace;
    }

    public int pathLog(int repo, int commit, int path) throws IndexOutOfBoundsException {
        Store store = atKind(repo, commit, COMMIT).store;
        needPlace(path, PATHS);
        return tracer.listPath(store, commit, path, row);
    }

    public int pathLogAt(int repo, int commit, int path, int place) throws IndexOutOfBoundsException {
        Store store = atKind(repo, commit, COMMIT).store;
        needPlace(path, PATHS);
        needPlace(place, tracer.listPath(store, commit, path, row));
        return row[place];
    }

    // ---- 7 merges, picks and the rebase

    public int merge(int repo, int commit, int mode, int favour, int author, int message)
            throws IndexOutOfBoundsException, IllegalArgumentException, IllegalStateException {
        Repo here = atKind(repo, commit, COMMIT);
        needRange(mode, 0, 2);
        needRange(favour, 0, 2);
        needAuthor(author, message);
        return allowed(here.mergeCommit(commit, mode, favour, author, message));
    }

    public int cherryPick(int repo, int commit, int mainline, int favour)
            throws IndexOutOfBoundsException, IllegalArgumentException, IllegalStateException {
        Repo here = atKind(repo, commit, COMMIT);
        needRange(mainline, 0, 2);
        needRange(favour, 0, 2);
        return allowed(here.pickCommit(commit, mainline, favour));
    }

    public int revert(int repo, int commit, int mainline, int favour, int author, int message)
            throws IndexOutOfBoundsException, IllegalArgumentException, IllegalStateException {
        Repo here = atKind(repo, commit, COMMIT);
        needRange(mainline, 0, 2);
        needRange(favour, 0, 2);
        needAuthor(author, message);
        return allowed(here.revertCommit(commit, mainline, favour, author, message));
    }

    public int rebase(int repo, int upstream, int onto, int favour)
            throws IndexOutOfBoundsException, IllegalArgumentException, IllegalStateException {
        Repo here = atCommits(repo, upstream, onto);
        needRange(favour, 0, 2);
        return allowed(here.rebaseHead(upstream, onto, favour));
    }

    public int proceed(int repo) throws IndexOutOfBoundsException, IllegalStateException {
        return allowed(at(repo).proceedOn());
    }

    public int skip(int repo) throws IndexOutOfBoundsException, IllegalStateException {
        return allowed(at(repo).skipStep());
    }

    public int abort(int repo) throws IndexOutOfBoundsException, IllegalStateException {
        return allowed(at(repo).abortOperation());
    }

    public int takeStage(int repo, int path, int stage) throws IndexOutOfBoundsException, IllegalStateException {
        Repo here = atPath(repo, path);
        needPlace(stage, STAGES);
        return allowed(here.writeStage(path, stage));
    }

    public int mergeFile(int repo, int path, int favour)
            throws IndexOutOfBoundsException, IllegalArgumentException, IllegalStateException {
        Repo here = atPath(repo, path);
        needRange(favour, 0, 2);
        allowIf(hasBit(here.desk.conflicts, path));
        return here.mergeStages(path, favour);
    }

    public int operation(int repo) throws IndexOutOfBoundsException {
        return at(repo).state.operation;
    }

    public int operationCommit(int repo) throws IndexOutOfBoundsException {
        return at(repo).state.opCommit;
    }

    public int todo(int repo) throws IndexOutOfBoundsException {
        return at(repo).state.todoCount;
    }

    public int todoAt(int repo, int place) throws IndexOutOfBoundsException {
        State state = at(repo).state;
        needPlace(place, state.todoCount);
        return state.todo[place];
    }

    public int wouldClash(int repo, int ours, int theirs) throws IndexOutOfBoundsException {
        Repo here = atCommits(repo, ours, theirs);
        here.merger.mergeCommits(here.store, ours, theirs);
        return here.merger.clashing;
    }

    public int mergedLines(int repo, int ours, int theirs, int path) throws IndexOutOfBoundsException {
        Repo here = atCommits(repo, ours, theirs);
        needPlace(path, PATHS);
        here.merger.mergeCommits(here.store, ours, theirs);
        return here.merger.result.lengths[path];
    }

    public int mergedLine(int repo, int ours, int theirs, int path, int place) throws IndexOutOfBoundsException {
        Repo here = atCommits(repo, ours, theirs);
        needPlace(path, PATHS);
        here.merger.mergeCommits(here.store, ours, theirs);
        needPlace(place, here.merger.result.lengths[path]);
        return here.merger.result.lines[path * MOST_LINES + place];
    }

    public int baseLines(int repo, int commit, int other, int path) throws IndexOutOfBoundsException {
        Repo here = atCommits(repo, commit, other);
        needPlace(path, PATHS);
        here.store.ancestors(commit, here.merger.covered[0]);
        Merger.makeBase(here.merger, here.store, other, 0);
        return here.merger.base.lengths[path];
    }

    public int baseLine(int repo, int commit, int other, int path, int place) throws IndexOutOfBoundsException {
        Repo here = atCommits(repo, commit, other);
        needPlace(path, PATHS);
        here.store.ancestors(commit, here.merger.covered[0]);
        Merger.makeBase(here.merger, here.store, other, 0);
        needPlace(place, here.merger.base.lengths[path]);
        return here.merger.base.lines[path * MOST_LINES + place];
    }

    // ---- 8 transfer

    public int fetch(int repo, int limit)
            throws IndexOutOfBoundsException, IllegalArgumentException, IllegalStateException {
        Repo here = at(repo);
        needRange(limit, 1, MOST_OBJECTS);
        return allowed(transfer.fetchInto(here, at(1 - repo), limit));
    }

    public int push(int repo, int branch, int target, int how, int limit)
            throws IndexOutOfBoundsException, IllegalArgumentException, IllegalStateException {
        Repo here = atRef(repo, branch);
        needPlace(target, REFS);
        needRange(how, 0, 2);
        needRange(limit, 1, MOST_OBJECTS);
        return allowed(transfer.pushInto(here, at(1 - repo), branch, target, how, limit));
    }

    public int pushDelete(int repo, int target) throws IndexOutOfBoundsException, IllegalStateException {
        Repo here = atRef(repo, target);
        return allowed(transfer.deleteThere(here, at(1 - repo), target));
    }

    public int pruneTracks(int repo) throws IndexOutOfBoundsException {
        State here = at(repo).state;
        State there = at(1 - repo).state;
        int pruned = 0;
        for (int track = 0; track < REFS; track++) {
            if (here.tracks[track] != NONE && there.branches[track] == NONE) {
                here.tracks[track] = NONE;
                pruned++;
            }
        }
        return pruned;
    }

    public int wouldSend(int repo, int commit) throws IndexOutOfBoundsException {
        Repo here = atKind(repo, commit, COMMIT);
        return transfer.countPack(here.store, at(1 - repo).store, commit);
    }

    public int rounds() {
        return transfer.rounds;
    }

    public int told() {
        return transfer.told;
    }

    public int sent() {
        return transfer.sent;
    }

    public int doubles() {
        return transfer.doubles;
    }

    // ---- 9 packs and collecting

    public int reached(int repo) throws IndexOutOfBoundsException {
        packs.findReached(at(repo));
        return countOf(packs.reached);
    }

    public boolean isReached(int repo, int object) throws IndexOutOfBoundsException {
        packs.findReached(atObject(repo, object));
        return inSet(packs.reached, object);
    }

    public int collect(int repo, int grace) throws IndexOutOfBoundsException, IllegalArgumentException {
        Repo here = at(repo);
        needRange(grace, 0, LAST_TIME);
        return packs.collectFrom(here, grace);
    }

    public int expireReflog(int repo, int age) throws IndexOutOfBoundsException, IllegalArgumentException {
        Repo here = at(repo);
        needRange(age, 0, LAST_TIME);
        return here.state.dropLog(age);
    }

    public int dangling(int repo) throws IndexOutOfBoundsException {
        return packs.listDangling(at(repo), row);
    }

    public int danglingAt(int repo, int place) throws IndexOutOfBoundsException {
        needPlace(place, packs.listDangling(at(repo), row));
        return row[place];
    }

    public int pack(int repo, int window, int depth) throws IndexOutOfBoundsException, IllegalArgumentException {
        Repo here = at(repo);
        needRange(window, 0, 8);
        needRange(depth, 0, DEEPEST_DELTA);
        packs.packAll(here.store, window, depth);
        return packs.costOfAll(here.store);
    }

    public boolean isPacked(int repo, int object) throws IndexOutOfBoundsException {
        return atObject(repo, object).store.packed[object] != 0;
    }

    public int packBase(int repo, int blob) throws IndexOutOfBoundsException {
        return atKind(repo, blob, BLOB).store.deltaBases[blob];
    }

    public int packDepth(int repo, int blob) throws IndexOutOfBoundsException {
        return atKind(repo, blob, BLOB).store.deltaDepth(blob);
    }

    public int packedLine(int repo, int blob, int place) throws IndexOutOfBoundsException {
        Store store = atKind(repo, blob, BLOB).store;
        needPlace(place, store.lengths[blob]);
        return packs.readLine(store, blob, place);
    }

    public int packSize(int repo) throws IndexOutOfBoundsException {
        return packs.costOfAll(at(repo).store);
    }

    public int deltaCost(int repo, int base, int blob) throws IndexOutOfBoundsException {
        Repo here = atKind(repo, base, BLOB);
        needKind(here, blob, BLOB);
        return diff.deltaCostOf(here.store, base, blob);
    }

    // ---- 10 bisection

    public int bisectStart(int repo, int bad, int good) throws IndexOutOfBoundsException, IllegalStateException {
        Repo here = atCommits(repo, bad, good);
        allowIf(here.search.bad == NONE && !here.store.reaches(good, bad));
        here.search.start(bad, good);
        return here.search.findLeft(here.store);
    }

    public int bisectGood(int repo, int commit) throws IndexOutOfBoundsException, IllegalStateException {
        Repo here = atKind(repo, commit, COMMIT);
        allowIf(here.search.bad != NONE && !here.store.reaches(commit, here.search.bad));
        addTo(here.search.good, commit);
        return here.search.findLeft(here.store);
    }

    public int bisectBad(int repo, int commit) throws IndexOutOfBoundsException, IllegalStateException {
        Repo here = atLeft(repo, commit);
        here.search.bad = commit;
        return here.search.findLeft(here.store);
    }

    public int bisectSkip(int repo, int commit) throws IndexOutOfBoundsException, IllegalStateException {
        Repo here = atLeft(repo, commit);
        addTo(here.search.skipped, commit);
        return here.search.countSkipped();
    }

    public int bisectEnd(int repo) throws IndexOutOfBoundsException, IllegalStateException {
        Repo here = atSearch(repo);
        int count = here.search.findLeft(here.store);
        here.search.bad = NONE;
        return count;
    }

    public int left(int repo) throws IndexOutOfBoundsException {
        Repo here = at(repo);
        return here.search.bad == NONE ? NONE : here.search.findLeft(here.store);
    }

    public int leftAt(int repo, int place) throws IndexOutOfBoundsException {
        Repo here = at(repo);
        here.search.findLeft(here.store);
        needPlace(place, here.store.listNewest(here.search.left, row));
        return row[place];
    }

    public int weight(int repo, int commit) throws IndexOutOfBoundsException, IllegalStateException {
        Repo here = atLeft(repo, commit);
        return here.store.countWithin(commit, here.search.left);
    }

    public int nextTest(int repo) throws IndexOutOfBoundsException, IllegalStateException {
        Repo here = atSearch(repo);
        here.search.findLeft(here.store);
        return here.search.nextToTest(here.store);
    }

    public int culprit(int repo) throws IndexOutOfBoundsException, IllegalStateException {
        Repo here = atSearch(repo);
        return here.search.findLeft(here.store) == 1 ? here.search.bad : NONE;
    }

    public int tests(int repo) throws IndexOutOfBoundsException, IllegalStateException {
        Repo here = atSearch(repo);
        return here.search.mostTests(here.store);
    }

    public int testsFor(int repo, int commit) throws IndexOutOfBoundsException, IllegalStateException {
        Repo here = atLeft(repo, commit);
        return here.search.searchFor(here.store, commit);
    }

    // ---- 11 stashes

    public int stashPush(int repo, int author, int message)
            throws IndexOutOfBoundsException, IllegalArgumentException, IllegalStateException {
        Repo here = at(repo);
        needAuthor(author, message);
        return allowed(here.stashAway(author, message));
    }

    public boolean stashApply(int repo, int stash, boolean withIndex)
            throws IndexOutOfBoundsException, IllegalStateException {
        Repo here = atStash(repo, stash);
        return allowed(here.applyStash(here.state.stashes[stash], withIndex)) == MADE;
    }

    public boolean stashPop(int repo, int stash, boolean withIndex)
            throws IndexOutOfBoundsException, IllegalStateException {
        Repo here = atStash(repo, stash);
        boolean clear = allowed(here.applyStash(here.state.stashes[stash], withIndex)) == MADE;
        if (clear) {
            here.state.takeStash(stash);
        }
        return clear;
    }

    public int stashDrop(int repo, int stash) throws IndexOutOfBoundsException {
        return atStash(repo, stash).state.takeStash(stash);
    }

    public int stashes(int repo) throws IndexOutOfBoundsException {
        return at(repo).state.stashCount;
    }

    public int stashAt(int repo, int place) throws IndexOutOfBoundsException {
        return atStash(repo, place).state.stashes[place];
    }

    // ---- 12 rehearsal, and what is sound

    public int rehearse(int repo, int seed, int steps) throws IndexOutOfBoundsException, IllegalArgumentException {
        Repo here = at(repo);
        Repo there = at(1 - repo);
        needRange(seed, 0, 65535);
        needRange(steps, 1, 40);
        chance = seed;
        int calls = 0;
        for (int step = 0; step < steps; step++) {
            boolean busy = here.state.isBusy();
            int what = busy ? NONE : lot(12);
            if (busy) {
                calls += rehearseStages(here) + counted(here.proceedOn());
            } else if (what < 4) {
                calls += rehearseFile(here, what);
            } else if (what < 6) {
                calls += rehearseCommit(here);
            } else if (what == 6) {
                calls += rehearseSwitch(here);
            } else if (what == 7) {
                calls += rehearseMerge(here);
            } else if (what == 8) {
                calls += counted(here.state.passTime(lot(9) + 1));
            } else if (what == 9) {
                calls += rehearseTag(here);
            } else if (what == 10) {
                calls += rehearsePick(here);
            } else {
                calls += counted(transfer.fetchInto(here, there, MOST_OBJECTS));
            }
        }
        return calls;
    }

    public boolean isSound(int repo, int part) throws IndexOutOfBoundsException, IllegalArgumentException {
        Repo here = at(repo);
        Repo there = at(1 - repo);
        needRange(part, 0, 11);
        boolean whole = part == 0;
        boolean sound = !(whole || part == 1) || here.desk.areFilesSound();
        sound = sound && (!(whole || part == 2) || here.store.areObjectsSound(here.state.clock));
        sound = sound && (!(whole || part == 3) || here.desk.isIndexSound(here.store));
        sound = sound && (!(whole || part == 4) || here.state.areRefsSound(here.store));
        sound = sound && (!(whole || part == 5) || isHistorySound(here));
        sound = sound && (!(whole || part == 6) || tracer.areDiffsSound(here.store));
        sound = sound && (!(whole || part == 6) || tracer.areOriginsSound(here.store, here.state.headCommit()));
        sound = sound && (!(whole || part == 7) || here.areMergesSound() && here.isOperationSound());
        sound = sound && (!(whole || part == 8) || transfer.areTwinsSound(here.store, there.store));
        sound = sound && (!(whole || part == 9) || packs.arePacksSound(here));
        sound = sound && (!(whole || part == 10) || here.search.isSearchSound(here.store));
        return sound && (!(whole || part == 11) || here.areStashesSound());
    }

    // ---- what the face asks of its arguments

    private Repo at(int repo) {
        needPlace(repo, 2);
        return repo == 0 ? first : second;
    }

    private Repo atPath(int repo, int path) {
        Repo here = at(repo);
        needPlace(path, PATHS);
        return here;
    }

    private Repo atRef(int repo, int number) {
        Repo here = at(repo);
        needPlace(number, REFS);
        return here;
    }

    private State atLog(int repo, int place) {
        State state = at(repo).state;
        needPlace(place, state.logCount);
        return state;
    }

    private Repo atStash(int repo, int stash) {
        Repo here = at(repo);
        needPlace(stash, here.state.stashCount);
        return here;
    }

    private Repo atObject(int repo, int object) {
        Repo here = at(repo);
        if (!here.store.has(object)) {
            throw new IndexOutOfBoundsException();
        }
        return here;
    }

    private Repo atKind(int repo, int object, int kind) {
        Repo here = at(repo);
        needKind(here, object, kind);
        return here;
    }

    private Repo atCommits(int repo, int commit, int other) {
        Repo here = atKind(repo, commit, COMMIT);
        needKind(here, other, COMMIT);
        return here;
    }

    private Repo atDated(int repo, int object) {
        Repo here = at(repo);
        if (!here.store.hasKind(object, COMMIT)) {
            needKind(here, object, TAG);
        }
        return here;
    }

    private Repo atSearch(int repo) {
        Repo here = at(repo);
        allowIf(here.search.bad != NONE);
        return here;
    }

    /** Finds what is left, too. */
    private Repo atLeft(int repo, int commit) {
        Repo here = atKind(repo, commit, COMMIT);
        allowIf(here.search.bad != NONE);
        here.search.findLeft(here.store);
        allowIf(inSet(here.search.left, commit));
        return here;
    }

    private static void needPlace(int place, int count) {
        if (place < 0 || place >= count) {
            throw new IndexOutOfBoundsException();
        }
    }

    private static void needKind(Repo here, int object, int kind) {
        if (!here.store.hasKind(object, kind)) {
            throw new IndexOutOfBoundsException();
        }
    }

    private static void needKindOrNone(Repo here, int object, int kind) {
        if (object != NONE) {
            needKind(here, object, kind);
        }
    }

    private static void needRange(int value, int least, int most) {
        if (value < least || value > most) {
            throw new IllegalArgumentException();
        }
    }

    private static void needAuthor(int author, int message) {
        needRange(author, 0, 9);
        needRange(message, 0, 99);
    }

    private static int allowed(int answer) {
        allowIf(answer != REFUSED);
        return answer;
    }

    private static void allowIf(boolean holds) {
        if (!holds) {
            throw new IllegalStateException();
        }
    }

    private static boolean areLines(long digits) {
        if (digits < 0) {
            return false;
        }
        long rest = digits;
        for (int place = 0; place < 20 && rest > 0; place++) {
            if (rest % 10 == 0) {
                return false;
            }
            rest /= 10;
        }
        return true;
    }

    private void compareRows(int repo, int from, int to) {
        Repo here = at(repo);
        needKindOrNone(here, from, BLOB);
        needKindOrNone(here, to, BLOB);
        diff.compareBlobs(here.store, from, to);
    }

    private void findHunk(int repo, int from, int to, int context, int hunk) {
        compareRows(repo, from, to);
        needPlace(context, 10);
        needPlace(hunk, diff.findHunks(context));
    }

    private void traceLine(int repo, int commit, int path, int place, int limit) {
        Store store = atKind(repo, commit, COMMIT).store;
        needPlace(path, PATHS);
        needPlace(place, store.rowLength(store.blobOf(commit, path)));
        needRange(limit, 0, 100);
        tracer.trace(store, commit, path, place, limit);
    }

    private int listBases(Store store, int commit, int other) {
        store.findBases(commit, other, set);
        return store.listNewest(set, row);
    }

    // ---- the text

    private int textFault() {
        int state = TEXT_START;
        boolean inSecond = false;
        for (int at = 0; at < textLength; at++) {
            state = stateBehind(state, text[at], inSecond);
            if (state == NONE) {
                return at;
            }
            inSecond = inSecond || state == TEXT_DOT;
        }
        return state >= TEXT_HEAD ? NONE : textLength;
    }

    /** The states from TEXT_HEAD on are those in which the text could end. */
    private static int stateBehind(int state, int c, boolean inSecond) {
        boolean digit = c >= '0' && c <= '9';
        if (state == TEXT_DOTS && c == '.') {
            return TEXT_START;
        }
        if (state == TEXT_START || state == TEXT_DOTS) {
            return c == 'H' ? TEXT_HEAD : c == 'B' || c == 'T' || c == 'R' ? TEXT_NUMBER : NONE;
        }
        if (state == TEXT_NUMBER) {
            return c >= '0' && c <= '5' ? TEXT_WHOLE : NONE;
        }
        if (state == TEXT_DOT) {
            return c == '.' ? TEXT_DOTS : NONE;
        }
        if (state == TEXT_AT || state == TEXT_TILDE && digit) {
            return digit ? TEXT_ONE_DIGIT : NONE;
        }
        if (state == TEXT_HEAD && c == '@') {
            return TEXT_AT;
        }
        if (state == TEXT_ONE_DIGIT && digit || state == TEXT_CARET && c >= '0' && c <= '2') {
            return TEXT_WHOLE;
        }
        if (c == '~' || c == '^') {
            return c == '~' ? TEXT_TILDE : TEXT_CARET;
        }
        return c == '.' && !inSecond ? TEXT_DOT : NONE;
    }

    private int firstDot() {
        int at = 0;
        while (at < textLength && text[at] != '.') {
            at++;
        }
        return at;
    }

    /** The commit that the text from one place up to another names; the text must have no fault. */
    private int namedCommit(Repo here, int from, int to) {
        if (from + 1 > to) {
            return NONE;
        }
        int at = from + 1;
        int commit = NONE;
        if (text[from] != 'H') {
            commit = at < to ? here.refCommit(text[from], text[at] - '0') : NONE;
            at++;
        } else if (at < to && text[at] == '@') {
            int digits = digitsAt(at + 1, to, 2);
            commit = here.state.logCommit(numberAt(at + 1, digits));
            at += 1 + digits;
        } else {
            commit = here.state.headCommit();
        }
        while (at < to && commit != NONE) {
            boolean back = text[at] == '~';
            int digits = digitsAt(at + 1, to, back ? 2 : 1);
            int number = digits == 0 ? 1 : numberAt(at + 1, digits);
            commit = back ? here.store.backBy(commit, number) : number == 0 ? commit : here.store.part(commit, number);
            at += 1 + digits;
        }
        return commit;
    }

    private int digitsAt(int from, int to, int most) {
        int count = 0;
        while (count < most && from + count < to && text[from + count] >= '0' && text[from + count] <= '9') {
            count++;
        }
        return count;
    }

    private int numberAt(int from, int digits) {
        int number = 0;
        for (int at = from; at < from + digits && at < textLength; at++) {
            number = number * 10 + text[at] - '0';
        }
        return number;
    }

    private int listText(Repo here) {
        if (textFault() != NONE) {
            return REFUSED;
        }
        int dot = firstDot();
        int commit = namedCommit(here, 0, dot);
        if (commit == NONE) {
            return REFUSED;
        }
        here.store.ancestors(commit, set);
        if (dot < textLength) {
            boolean three = dot + 2 < textLength && text[dot + 2] == '.';
            int other = namedCommit(here, dot + (three ? 3 : 2), textLength);
            if (other == NONE) {
                return REFUSED;
            }
            here.store.ancestors(other, otherSet);
            for (int word = 0; word < WORDS; word++) {
                set[word] = three ? set[word] ^ otherSet[word] : otherSet[word] & ~set[word];
            }
        }
        return here.store.listNewest(set, row);
    }

    // ---- the rehearsal

    private int lot(int n) {
        chance = (25173 * chance + 13849) % 65536;
        return n <= 0 ? 0 : chance / 16 % n;
    }

    private static int counted(int answer) {
        return answer == REFUSED ? 0 : 1;
    }

    private int rehearseStages(Repo here) {
        int calls = 0;
        for (int path = 0; path < PATHS; path++) {
            if (hasBit(here.desk.conflicts, path)) {
                calls += counted(here.writeStage(path, lot(2) + 1));
                calls += counted(here.addPath(path));
            }
        }
        return calls;
    }

    private int rehearseFile(Repo here, int what) {
        Snap files = here.desk.files;
        int path = 5 * lot(4);
        int length = files.lengths[path];
        if (what == 3) {
            if (length > 0) {
                files.delete(path, lot(length));
            }
            return length > 0 ? 1 : 0;
        }
        if (length == NONE) {
            long digits = 0;
            for (int digit = 0; digit < 4; digit++) {
                digits = digits * 10 + lot(9) + 1;
            }
            files.putDigits(path, digits);
            return 1;
        }
        int place = lot(length + 1);
        return counted(files.insert(path, place, lot(9) + 1));
    }

    private int rehearseCommit(Repo here) {
        int calls = counted(here.addEvery());
        int author = lot(10);
        int message = lot(100);
        return calls + counted(here.commitIndex(author, message));
    }

    private int rehearseSwitch(Repo here) {
        int branch = lot(3);
        int head = here.state.headCommit();
        int calls = 0;
        if (here.state.branches[branch] == NONE && head != NONE) {
            calls = counted(here.state.makeBranch(branch, head));
        }
        return calls + counted(here.switchHead(branch));
    }

    private int drawCommit(Repo here) {
        int number = lot(6);
        return number < 3 ? here.state.branches[number] : here.state.tracks[number - 3];
    }

    private int rehearseMerge(Repo here) {
        int commit = drawCommit(here);
        if (commit == NONE) {
            return 0;
        }
        int author = lot(10);
        int message = lot(100);
        return counted(here.mergeCommit(commit, 0, 0, author, message));
    }

    private int rehearseTag(Repo here) {
        int tag = lot(6);
        int message = lot(100);
        int head = here.state.headCommit();
        return head == NONE ? 0 : counted(here.annotateCommit(tag, head, message));
    }

    private int rehearsePick(Repo here) {
        int commit = drawCommit(here);
        if (commit == NONE) {
            return 0;
        }
        int mainline = here.store.part(commit, 2) == NONE ? 0 : 1;
        return counted(here.pickCommit(commit, mainline, 0));
    }

    // ---- what is sound

    private boolean isHistorySound(Repo here) {
        here.store.countGenerations(row);
        if (!here.store.doGenerationsRise(row)) {
            return false;
        }
        for (int one = 0; one < 2 * REFS; one++) {
            for (int other = 0; other < one; other++) {
                int commit = here.state.branchOrTrack(one);
                int otherCommit = here.state.branchOrTrack(other);
                if (commit != NONE && otherCommit != NONE) {
                    here.store.findBases(commit, otherCommit, set);
                    if (!here.store.areApart(set)) {
                        return false;
                    }
                }
            }
        }
        return true;
    }

    // ---- bits and rows

    private static boolean hasBit(int bits, int place) {
        return (bits >> place & 1) != 0;
    }

    private static boolean inSet(long[] bits, int number) {
        return number >= 0 && number < SLOTS && (bits[number >> 6] >>> (number & 63) & 1L) != 0;
    }

    private static void addTo(long[] bits, int number) {
        if (number >= 0 && number < SLOTS) {
            bits[number >> 6] |= 1L << (number & 63);
        }
    }

    private static void dropFrom(long[] bits, int number) {
        if (number >= 0 && number < SLOTS) {
            bits[number >> 6] &= ~(1L << (number & 63));
        }
    }

    private static int countOf(long[] bits) {
        int count = 0;
        for (int word = 0; word < WORDS; word++) {
            count += Long.bitCount(bits[word]);
        }
        return count;
    }

    private static int countThere(int[] refs) {
        int count = 0;
        for (int number = 0; number < refs.length; number++) {
            if (refs[number] != NONE) {
                count++;
            }
        }
        return count;
    }

    private static boolean areSameRows(int[] row, int from, int[] other, int otherFrom, int length) {
        for (int place = 0; place < length; place++) {
            if (row[from + place] != other[otherFrom + place]) {
                return false;
            }
        }
        return true;
    }

    /** Sixteen rows of lines, one a path; a path that has nothing has the length NONE. */
    private static final class Snap {
        private final int[] lengths = new int[PATHS];
        private final int[] lines = new int[PATHS * MOST_LINES];

        private Snap() {
            for (int path = 0; path < PATHS; path++) {
                lengths[path] = NONE;
            }
        }

        private void empty() {
            Arrays.fill(lengths, NONE);
        }

        private void put(int path, int[] from, int at, int length) {
            boolean fits = length <= MOST_LINES && at >= 0 && at + length <= from.length;
            lengths[path] = fits ? length : NONE;
            if (fits && length > 0) {
                System.arraycopy(from, at, lines, path * MOST_LINES, length);
            }
        }

        private void putPath(int path, Snap from) {
            put(path, from.lines, path * MOST_LINES, from.lengths[path]);
        }

        private void putBlob(int path, Store store, int blob) {
            if (blob == NONE) {
                lengths[path] = NONE;
            } else {
                put(path, store.lines, blob * MOST_LINES, store.lengths[blob]);
            }
        }

        private void putSnapshot(Store store, int commit) {
            for (int path = 0; path < PATHS; path++) {
                putBlob(path, store, store.blobOf(commit, path));
            }
        }

        private void copyFrom(Snap other) {
            System.arraycopy(other.lengths, 0, lengths, 0, PATHS);
            System.arraycopy(other.lines, 0, lines, 0, PATHS * MOST_LINES);
        }

        private boolean isSameAt(int path, Snap other) {
            int at = path * MOST_LINES;
            return lengths[path] == other.lengths[path] && areSameRows(lines, at, other.lines, at, lengths[path]);
        }

        private int putDigits(int path, long digits) {
            int length = 0;
            for (long rest = digits; rest > 0 && length < 20; rest /= 10) {
                length++;
            }
            long rest = digits;
            for (int place = length - 1; place >= 0; place--) {
                lines[path * MOST_LINES + place] = (int) (rest % 10);
                rest /= 10;
            }
            lengths[path] = length;
            return length;
        }

        private int insert(int path, int place, int line) {
            int length = lengths[path];
            if (length == NONE || length >= MOST_LINES || place < 0 || place > length) {
                return REFUSED;
            }
            int at = path * MOST_LINES + place;
            System.arraycopy(lines, at, lines, at + 1, length - place);
            lines[at] = line;
            lengths[path] = length + 1;
            return length + 1;
        }

        private int delete(int path, int place) {
            int length = lengths[path];
            if (place < 0 || place >= length) {
                return NONE;
            }
            int at = path * MOST_LINES + place;
            int line = lines[at];
            System.arraycopy(lines, at + 1, lines, at, length - place - 1);
            lengths[path] = length - 1;
            return line;
        }
    }

    /** The objects of one repository. An object is drafted in the slot behind the last number, and kept from there. */
    private static final class Store {
        private int count;
        private int savedCount;
        private final int[] kinds = new int[SLOTS];
        private final int[] stamps = new int[SLOTS];
        private final int[] savedStamps = new int[SLOTS];
        private final int[] parts = new int[PARTS * SLOTS];
        private final int[] authors = new int[SLOTS];
        private final int[] dates = new int[SLOTS];
        private final int[] messages = new int[SLOTS];
        private final int[] lengths = new int[SLOTS];
        private final int[] lines = new int[MOST_LINES * SLOTS];
        private final int[] marks = new int[SLOTS];
        /** For each object the set of what it reaches: all sets stay right, as an object never changes. */
        private final long[] reach = new long[WORDS * SLOTS];
        private final long[] commits = new long[WORDS];
        private final int[] packed = new int[SLOTS];
        private final int[] deltaBases = new int[SLOTS];
        private final long[] below = new long[WORDS];
        private final long[] unlisted = new long[WORDS];
        private final int[] waiting = new int[SLOTS];
        private final int[] folders = new int[PARTS];

        private boolean has(int object) {
            return object >= 0 && object < count && kinds[object] != NONE;
        }

        private boolean hasKind(int object, int kind) {
            return has(object) && kinds[object] == kind;
        }

        /** Of NONE each part is NONE, so that parts of parts can be asked at once. */
        private int part(int object, int place) {
            boolean known = object >= 0 && object < SLOTS && place >= 0 && place < PARTS;
            return known ? parts[object * PARTS + place] : NONE;
        }

        private int blobOf(int commit, int path) {
            return part(part(part(commit, 0), path / 4), path % 4);
        }

        private int commitOf(int object) {
            return hasKind(object, TAG) ? part(object, 0) : object;
        }

        private int rowLength(int blob) {
            return blob == NONE ? 0 : lengths[blob];
        }

        private int rowStart(int blob) {
            return blob == NONE ? 0 : blob * MOST_LINES;
        }

        private boolean isSameBlob(int blob, Store other, int otherBlob) {
            if (blob == NONE || otherBlob == NONE) {
                return blob == otherBlob;
            }
            return lengths[blob] == other.lengths[otherBlob]
                    && areSameRows(lines, rowStart(blob), other.lines, other.rowStart(otherBlob), lengths[blob]);
        }

        // ---- to store

        private void save() {
            savedCount = count;
            System.arraycopy(stamps, 0, savedStamps, 0, SLOTS);
        }

        private void undo() {
            for (int number = savedCount; number < count; number++) {
                dropFrom(commits, number);
            }
            count = savedCount;
            System.arraycopy(savedStamps, 0, stamps, 0, SLOTS);
        }

        private void draft(int kind, int author, int date, int message) {
            kinds[count] = kind;
            authors[count] = author;
            dates[count] = date;
            messages[count] = message;
            lengths[count] = 0;
            packed[count] = 0;
            deltaBases[count] = NONE;
            Arrays.fill(parts, count * PARTS, count * PARTS + PARTS, NONE);
        }

        private void draftTree(int[] entries, int from) {
            draft(TREE, 0, 0, 0);
            System.arraycopy(entries, from, parts, count * PARTS, PARTS);
        }

        /** Answers whether the twins of all its parts are known. */
        private boolean draftTwin(Store from, int object, int[] twins) {
            draft(from.kinds[object], from.authors[object], from.dates[object], from.messages[object]);
            lengths[count] = from.lengths[object];
            System.arraycopy(from.lines, object * MOST_LINES, lines, count * MOST_LINES, from.lengths[object]);
            for (int place = 0; place < PARTS; place++) {
                int part = from.part(object, place);
                if (part != NONE) {
                    if (twins[part] == NONE) {
                        return false;
                    }
                    parts[count * PARTS + place] = twins[part];
                }
            }
            return true;
        }

        /**
         * The first object ahead of a slot that holds the same as what is in the slot. What holds the same has the
         * same mark, by which nearly all others are passed over at once.
         */
        private int find(int slot) {
            int mark = (messages[slot] * 31 + dates[slot]) * 31 + authors[slot];
            for (int place = 0; place < PARTS; place++) {
                mark = mark * 31 + parts[slot * PARTS + place];
            }
            for (int place = 0; place < lengths[slot]; place++) {
                mark = mark * 31 + lines[slot * MOST_LINES + place];
            }
            marks[slot] = mark;
            for (int number = 0; number < slot; number++) {
                if (marks[number] == mark && kinds[number] == kinds[slot]) {
                    boolean same = lengths[number] == lengths[slot] && messages[number] == messages[slot]
                            && dates[number] == dates[slot] && authors[number] == authors[slot];
                    for (int place = 0; same && place < PARTS; place++) {
                        same = parts[number * PARTS + place] == parts[slot * PARTS + place];
                    }
                    for (int place = 0; same && place < lengths[slot]; place++) {
                        same = lines[number * MOST_LINES + place] == lines[slot * MOST_LINES + place];
                    }
                    if (same) {
                        return number;
                    }
                }
            }
            return NONE;
        }

        private int keep(int clock) {
            int number = find(count);
            if (number == NONE) {
                if (count >= MOST_OBJECTS) {
                    return REFUSED;
                }
                number = count;
                count++;
                noteReach(number);
            }
            stamps[number] = clock;
            return number;
        }

        private void noteReach(int number) {
            for (int word = 0; word < WORDS; word++) {
                long bits = word == number >> 6 ? 1L << (number & 63) : 0L;
                for (int place = 0; place < PARTS; place++) {
                    int part = parts[number * PARTS + place];
                    bits |= part == NONE ? 0L : reach[part * WORDS + word];
                }
                reach[number * WORDS + word] = bits;
            }
            if (kinds[number] == COMMIT) {
                commits[number >> 6] |= 1L << (number & 63);
            }
        }

        /** NONE if there is nothing at the path. */
        private int keepRow(Snap rows, int path, int clock) {
            int length = rows.lengths[path];
            if (length == NONE) {
                return NONE;
            }
            draft(BLOB, 0, 0, 0);
            lengths[count] = length;
            System.arraycopy(rows.lines, path * MOST_LINES, lines, count * MOST_LINES, length);
            return keep(clock);
        }

        private int keepCommit(int[] blobs, int parent, int other, int author, int message, int clock) {
            for (int folder = 0; folder < PARTS; folder++) {
                draftTree(blobs, folder * PARTS);
                boolean any = countThereIn(blobs, folder * PARTS) > 0;
                folders[folder] = any ? keep(clock) : NONE;
                if (folders[folder] == REFUSED) {
                    return REFUSED;
                }
            }
            draftTree(folders, 0);
            int root = keep(clock);
            if (root == REFUSED) {
                return REFUSED;
            }
            draft(COMMIT, author, clock, message);
            parts[count * PARTS] = root;
            parts[count * PARTS + 1] = parent;
            parts[count * PARTS + 2] = other;
            return keep(clock);
        }

        private static int countThereIn(int[] entries, int from) {
            int there = 0;
            for (int place = from; place < from + PARTS; place++) {
                if (entries[place] != NONE) {
                    there++;
                }
            }
            return there;
        }

        private int keepTag(int commit, int message, int clock) {
            draft(TAG, 0, clock, message);
            parts[count * PARTS] = commit;
            return keep(clock);
        }

        // ---- history

        private boolean reaches(int object, int other) {
            return object >= 0 && other >= 0 && object < SLOTS && other < SLOTS
                    && (reach[object * WORDS + (other >> 6)] >>> (other & 63) & 1L) != 0;
        }

        private void addReach(int object, long[] into) {
            if (object >= 0 && object < SLOTS) {
                for (int word = 0; word < WORDS; word++) {
                    into[word] |= reach[object * WORDS + word];
                }
            }
        }

        private void ancestors(int commit, long[] into) {
            Arrays.fill(into, 0L);
            addReach(commit, into);
            for (int word = 0; word < WORDS; word++) {
                into[word] &= commits[word];
            }
        }

        private int countWithin(int commit, long[] within) {
            int found = 0;
            for (int word = 0; word < WORDS; word++) {
                found += Long.bitCount(reach[commit * WORDS + word] & within[word]);
            }
            return found;
        }

        private int countAhead(int commit, int other) {
            int found = 0;
            for (int word = 0; word < WORDS; word++) {
                long ahead = reach[commit * WORDS + word] & ~reach[other * WORDS + word];
                found += Long.bitCount(ahead & commits[word]);
            }
            return found;
        }

        private int backBy(int commit, int steps) {
            int at = commit;
            for (int step = 0; step < steps && at != NONE; step++) {
                at = part(at, 1);
            }
            return at;
        }

        /** Leaves those commits of a set from which no other one of it descends. */
        private void keepTops(long[] set) {
            Arrays.fill(below, 0L);
            for (int commit = 0; commit < count; commit++) {
                if (inSet(set, commit)) {
                    addReach(part(commit, 1), below);
                    addReach(part(commit, 2), below);
                }
            }
            for (int word = 0; word < WORDS; word++) {
                set[word] &= ~below[word];
            }
        }

        private void findBases(int commit, int other, long[] into) {
            ancestors(commit, into);
            for (int word = 0; word < WORDS; word++) {
                into[word] &= reach[other * WORDS + word];
            }
            keepTops(into);
        }

        /** Answers how many commits there are. */
        private int listNewest(long[] set, int[] into) {
            Arrays.fill(waiting, 0);
            for (int commit = 0; commit < count; commit++) {
                if (inSet(set, commit)) {
                    noteChild(commit, 1);
                }
            }
            System.arraycopy(set, 0, unlisted, 0, WORDS);
            int size = countOf(set);
            for (int place = 0; place < size; place++) {
                int next = NONE;
                for (int commit = 0; commit < count; commit++) {
                    boolean can = inSet(unlisted, commit) && waiting[commit] == 0;
                    if (can && (next == NONE || dates[commit] >= dates[next])) {
                        next = commit;
                    }
                }
                into[place] = next;
                dropFrom(unlisted, next);
                noteChild(next, -1);
            }
            return size;
        }

        private void noteChild(int child, int change) {
            for (int place = 1; place <= 2; place++) {
                int parent = part(child, place);
                if (parent != NONE) {
                    waiting[parent] += change;
                }
            }
        }

        private void countGenerations(int[] into) {
            for (int commit = 0; commit < count; commit++) {
                if (kinds[commit] == COMMIT) {
                    int one = part(commit, 1);
                    int other = part(commit, 2);
                    into[commit] = 1 + Math.max(one == NONE ? 0 : into[one], other == NONE ? 0 : into[other]);
                }
            }
        }

        private boolean doGenerationsRise(int[] generations) {
            for (int commit = 0; commit < count; commit++) {
                for (int place = 1; place <= 2 && kinds[commit] == COMMIT; place++) {
                    int parent = part(commit, place);
                    if (parent != NONE && generations[parent] >= generations[commit]) {
                        return false;
                    }
                }
            }
            return true;
        }

        /** Whether no commit of a set descends from another one of it. */
        private boolean areApart(long[] set) {
            for (int commit = 0; commit < count; commit++) {
                if (inSet(set, commit) && countWithin(commit, set) > 1) {
                    return false;
                }
            }
            return true;
        }

        // ---- packs

        private int deltaDepth(int blob) {
            int depth = 0;
            for (int at = deltaBases[blob]; at != NONE && depth < MOST_OBJECTS; at = deltaBases[at]) {
                depth++;
            }
            return depth;
        }

        private int wholeCost(int object) {
            int kind = kinds[object];
            return kind == BLOB ? 2 + lengths[object] : kind == TREE ? 6 : kind == COMMIT ? 8 : 5;
        }

        private void remove(int object) {
            kinds[object] = NONE;
            packed[object] = 0;
            deltaBases[object] = NONE;
            dropFrom(commits, object);
            for (int blob = 0; blob < count; blob++) {
                if (deltaBases[blob] == object) {
                    deltaBases[blob] = NONE;
                    packed[blob] = 0;
                }
            }
        }

        // ---- what is sound

        private boolean areObjectsSound(int clock) {
            for (int object = 0; object < count; object++) {
                if (kinds[object] != NONE) {
                    if (stamps[object] > clock || find(object) != NONE || !arePartsSound(object)) {
                        return false;
                    }
                }
            }
            return true;
        }

        private boolean arePartsSound(int object) {
            int there = 0;
            for (int place = 0; place < PARTS; place++) {
                int part = part(object, place);
                if (part != NONE) {
                    there++;
                    if (part >= object || !has(part) || !isPartOfKind(object, place, kinds[part])) {
                        return false;
                    }
                }
            }
            return kinds[object] < COMMIT || there > 0 && part(object, 0) != NONE;
        }

        /** A tree may have blobs or trees: which of the two tells its first entry that is there. */
        private boolean isPartOfKind(int object, int place, int kind) {
            if (kinds[object] == COMMIT) {
                return kind == (place == 0 ? TREE : place < 3 ? COMMIT : NONE);
            }
            if (kinds[object] == TAG) {
                return place == 0 && kind == COMMIT;
            }
            int leader = NONE;
            for (int entry = 0; entry < PARTS && leader == NONE; entry++) {
                leader = part(object, entry);
            }
            boolean alike = leader != NONE && kind == kinds[leader];
            return kinds[object] == TREE && alike && (kind == BLOB || kind == TREE);
        }
    }

    /** The working files and the index of one repository. */
    private static final class Desk {
        private final Snap files = new Snap();
        private int ignored;
        private final int[] entries = new int[PATHS];
        private int conflicts;
        private final int[] stages = new int[PATHS * STAGES];

        private Desk() {
            for (int path = 0; path < PATHS; path++) {
                entries[path] = NONE;
            }
            for (int place = 0; place < PATHS * STAGES; place++) {
                stages[place] = NONE;
            }
        }

        private void copyFrom(Desk other) {
            files.copyFrom(other.files);
            ignored = other.ignored;
            conflicts = other.conflicts;
            System.arraycopy(other.entries, 0, entries, 0, PATHS);
            System.arraycopy(other.stages, 0, stages, 0, PATHS * STAGES);
        }

        private boolean isTracked(int path) {
            return entries[path] != NONE || hasBit(conflicts, path);
        }

        private void setEntry(int path, int blob) {
            entries[path] = blob;
            conflicts &= ~(1 << path);
            Arrays.fill(stages, path * STAGES, path * STAGES + STAGES, NONE);
        }

        private void setConflict(int path, int base, int ours, int theirs) {
            entries[path] = NONE;
            conflicts |= 1 << path;
            stages[path * STAGES] = base;
            stages[path * STAGES + 1] = ours;
            stages[path * STAGES + 2] = theirs;
        }

        private void setBoth(int path, Store store, int blob) {
            setEntry(path, blob);
            files.putBlob(path, store, blob);
        }

        private boolean areFilesSound() {
            for (int path = 0; path < PATHS; path++) {
                int length = files.lengths[path];
                if (length < NONE || length > MOST_LINES) {
                    return false;
                }
                for (int place = 0; place < length; place++) {
                    int line = files.lines[path * MOST_LINES + place];
                    if (line < 1 || line > 102) {
                        return false;
                    }
                }
            }
            return true;
        }

        private boolean isIndexSound(Store store) {
            for (int path = 0; path < PATHS; path++) {
                int there = 0;
                for (int place = path * STAGES; place < path * STAGES + STAGES; place++) {
                    if (stages[place] != NONE) {
                        there++;
                        if (!store.hasKind(stages[place], BLOB)) {
                            return false;
                        }
                    }
                }
                if (hasBit(conflicts, path) && there < 2) {
                    return false;
                }
                if (entries[path] != NONE && !store.hasKind(entries[path], BLOB)) {
                    return false;
                }
            }
            return true;
        }
    }

    /** The clock, HEAD, the refs, the reflog, the operation in progress and the stashes of one repository. */
    private static final class State {
        private int clock;
        private int headOn;
        private int headAt = NONE;
        private final int[] branches = new int[REFS];
        private final int[] tags = new int[REFS];
        private final int[] tracks = new int[REFS];
        /** For each entry, the newest first: its commit, its act, its date. */
        private final int[] log = new int[MOST_LOG * LOG_FACTS];
        private int logCount;
        private int operation;
        private int opCommit = NONE;
        private int opAuthor;
        private int opMessage;
        private int opFavour;
        private final int[] todo = new int[SLOTS];
        private int todoCount;
        private int startOn = NONE;
        private int startAt = NONE;
        private final int[] stashes = new int[MOST_STASHES];
        private int stashCount;

        private State() {
            for (int number = 0; number < REFS; number++) {
                branches[number] = NONE;
                tags[number] = NONE;
                tracks[number] = NONE;
            }
        }

        private void copyFrom(State other) {
            clock = other.clock;
            headOn = other.headOn;
            headAt = other.headAt;
            System.arraycopy(other.branches, 0, branches, 0, REFS);
            System.arraycopy(other.tags, 0, tags, 0, REFS);
            System.arraycopy(other.tracks, 0, tracks, 0, REFS);
            System.arraycopy(other.log, 0, log, 0, MOST_LOG * LOG_FACTS);
            logCount = other.logCount;
            operation = other.operation;
            opCommit = other.opCommit;
            opAuthor = other.opAuthor;
            opMessage = other.opMessage;
            opFavour = other.opFavour;
            System.arraycopy(other.todo, 0, todo, 0, other.todoCount);
            todoCount = other.todoCount;
            startOn = other.startOn;
            startAt = other.startAt;
            System.arraycopy(other.stashes, 0, stashes, 0, MOST_STASHES);
            stashCount = other.stashCount;
        }

        private boolean isBusy() {
            return operation != 0;
        }

        private boolean isRebased(int branch) {
            return operation == REBASE && startOn == branch;
        }

        private boolean isHeld(int branch) {
            return headOn == branch || isRebased(branch);
        }

        private int headCommit() {
            return headOn == NONE ? headAt : branches[headOn];
        }

        private int passTime(int n) {
            if (clock + n > LAST_TIME) {
                return REFUSED;
            }
            clock += n;
            return clock;
        }

        private int makeBranch(int branch, int commit) {
            if (branches[branch] != NONE || headOn == branch) {
                return REFUSED;
            }
            branches[branch] = commit;
            return countThere(branches);
        }

        private void note(int commit, int act) {
            int kept = Math.min(logCount, MOST_LOG - 1);
            System.arraycopy(log, 0, log, LOG_FACTS, kept * LOG_FACTS);
            log[0] = commit;
            log[1] = act;
            log[2] = clock;
            logCount = kept + 1;
        }

        private void moveHead(int commit, int act) {
            if (headOn == NONE) {
                headAt = commit;
            } else {
                branches[headOn] = commit;
            }
            note(commit, act);
        }

        private void detachAt(int commit, int act) {
            headOn = NONE;
            headAt = commit;
            note(commit, act);
        }

        private void putOnBranch(int branch, int commit, int act) {
            headOn = branch;
            headAt = NONE;
            branches[branch] = commit;
            note(commit, act);
        }

        private int logCommit(int place) {
            return place >= 0 && place < logCount ? log[place * LOG_FACTS] : NONE;
        }

        private int dropLog(int age) {
            int kept = 0;
            for (int place = 0; place < logCount; place++) {
                if (clock - log[place * LOG_FACTS + 2] < age) {
                    System.arraycopy(log, place * LOG_FACTS, log, kept * LOG_FACTS, LOG_FACTS);
                    kept++;
                }
            }
            int dropped = logCount - kept;
            logCount = kept;
            return dropped;
        }

        private int branchOrTrack(int number) {
            return number < REFS ? branches[number] : tracks[number - REFS];
        }

        // ---- the operation in progress

        private void begin(int kind, int commit, int author, int message) {
            operation = kind;
            opCommit = commit;
            opAuthor = author;
            opMessage = message;
        }

        private void finish() {
            operation = 0;
            opCommit = NONE;
            todoCount = 0;
            startOn = NONE;
            startAt = NONE;
        }

        private int takeTodo() {
            if (todoCount <= 0) {
                return NONE;
            }
            int next = todo[0];
            todoCount--;
            System.arraycopy(todo, 1, todo, 0, todoCount);
            return next;
        }

        // ---- stashes

        private void putStash(int commit) {
            if (stashCount < MOST_STASHES) {
                System.arraycopy(stashes, 0, stashes, 1, stashCount);
                stashes[0] = commit;
                stashCount++;
            }
        }

        private int takeStash(int place) {
            if (place < 0 || place >= stashCount) {
                return NONE;
            }
            int taken = stashes[place];
            stashCount--;
            System.arraycopy(stashes, place + 1, stashes, place, stashCount - place);
            return taken;
        }

        private boolean areRefsSound(Store store) {
            for (int number = 0; number < 2 * REFS; number++) {
                int commit = branchOrTrack(number);
                if (commit != NONE && !store.hasKind(commit, COMMIT)) {
                    return false;
                }
            }
            for (int number = 0; number < REFS; number++) {
                int object = tags[number];
                if (object != NONE && !store.hasKind(object, TAG) && !store.hasKind(object, COMMIT)) {
                    return false;
                }
            }
            return (headOn != NONE || store.hasKind(headAt, COMMIT)) && isLogSound(store);
        }

        private boolean isLogSound(Store store) {
            int latest = clock;
            for (int place = 0; place < logCount; place++) {
                int act = log[place * LOG_FACTS + 1];
                int date = log[place * LOG_FACTS + 2];
                if (!store.hasKind(logCommit(place), COMMIT) || act < 0 || act > ACT_PUSH || date > latest) {
                    return false;
                }
                latest = date;
            }
            return logCount <= MOST_LOG;
        }
    }

    /** The difference of two rows of lines. */
    private static final class Diff {
        private static final int SIDE = 61;
        private static final int MOST_STEPS = 120;

        private int olderLength;
        private int newerLength;
        private int pairs;
        /** At [i * SIDE + j] the longest common row of what is left from the old line i and the new line j on. */
        private final int[] common = new int[SIDE * SIDE];
        private final int[] newerOf = new int[MOST_LINES];
        private final int[] olderOf = new int[MOST_LINES];
        /** 0 for a pair, 1 for an old line removed, 2 for a new line added. */
        private final int[] steps = new int[MOST_STEPS];
        /** For each hunk: where it starts in the old and in the new row, and its lengths there. */
        private final int[] hunkFacts = new int[MOST_STEPS * 4];
        private final int[] backward = new int[2 * MOST_LINES];

        private void compare(int[] older, int olderFrom, int olderSize, int[] newer, int newerFrom, int newerSize) {
            olderLength = Math.min(Math.max(olderSize, 0), MOST_LINES);
            newerLength = Math.min(Math.max(newerSize, 0), MOST_LINES);
            int same = 0;
            int least = Math.min(olderLength, newerLength);
            while (same < least && older[olderFrom + same] == newer[newerFrom + same]) {
                same++;
            }
            // Lines that are the same at the front are pairs whatever follows: no table is needed for them.
            for (int i = olderLength; i >= same; i--) {
                for (int j = newerLength; j >= same; j--) {
                    int at = i * SIDE + j;
                    if (i == olderLength || j == newerLength) {
                        common[at] = 0;
                    } else if (older[olderFrom + i] == newer[newerFrom + j]) {
                        common[at] = common[at + SIDE + 1] + 1;
                    } else {
                        common[at] = Math.max(common[at + SIDE], common[at + 1]);
                    }
                }
            }
            pairs = 0;
            Arrays.fill(newerOf, NONE);
            Arrays.fill(olderOf, NONE);
            int i = 0;
            int j = 0;
            while (i < olderLength && j < newerLength) {
                if (older[olderFrom + i] == newer[newerFrom + j]) {
                    newerOf[i] = j;
                    olderOf[j] = i;
                    pairs++;
                    i++;
                    j++;
                } else if (common[(i + 1) * SIDE + j] >= common[i * SIDE + j + 1]) {
                    i++;
                } else {
                    j++;
                }
            }
        }

        private void compareBlobs(Store store, int from, int to) {
            compare(store.lines, store.rowStart(from), store.rowLength(from),
                    store.lines, store.rowStart(to), store.rowLength(to));
        }

        private int likenessOf(Store store, int blob, int other) {
            compare(store.lines, store.rowStart(blob), store.rowLength(blob),
                    store.lines, store.rowStart(other), store.rowLength(other));
            int both = olderLength + newerLength;
            return both == 0 ? 100 : 200 * pairs / both;
        }

        private boolean isPairedAsBackwards(Store store, int from, int to) {
            int size = store.rowLength(from);
            int otherSize = store.rowLength(to);
            for (int place = 0; place < size; place++) {
                backward[place] = store.lines[store.rowStart(from) + size - 1 - place];
            }
            for (int place = 0; place < otherSize; place++) {
                backward[MOST_LINES + place] = store.lines[store.rowStart(to) + otherSize - 1 - place];
            }
            compare(backward, 0, size, backward, MOST_LINES, otherSize);
            int longest = pairs;
            compareBlobs(store, from, to);
            return pairs == longest;
        }

        /** Between two pairs it does not matter for hunks which lines come first: the removed ones do here. */
        private int writeSteps() {
            int count = 0;
            int j = 0;
            for (int i = 0; i <= olderLength; i++) {
                int paired = i < olderLength ? newerOf[i] : newerLength;
                while (j < paired) {
                    steps[count] = 2;
                    count++;
                    j++;
                }
                if (i < olderLength) {
                    steps[count] = paired == NONE ? 1 : 0;
                    count++;
                    j += paired == NONE ? 0 : 1;
                }
            }
            return count;
        }

        private boolean isShown(int at, int count, int context) {
            int last = Math.min(at + context, count - 1);
            for (int step = Math.max(at - context, 0); step <= last; step++) {
                if (steps[step] != 0) {
                    return true;
                }
            }
            return false;
        }

        private int findHunks(int context) {
            int count = writeSteps();
            int found = 0;
            int older = 0;
            int newer = 0;
            boolean open = false;
            for (int at = 0; at < count; at++) {
                boolean shown = isShown(at, count, context);
                if (shown && !open) {
                    hunkFacts[found * 4] = older;
                    hunkFacts[found * 4 + 1] = newer;
                    found++;
                }
                older += steps[at] == 2 ? 0 : 1;
                newer += steps[at] == 1 ? 0 : 1;
                if (shown) {
                    int facts = (found - 1) * 4;
                    hunkFacts[facts + 2] = older - hunkFacts[facts];
                    hunkFacts[facts + 3] = newer - hunkFacts[facts + 1];
                }
                open = shown;
            }
            return found;
        }

        private int deltaCostOf(Store store, int base, int blob) {
            compareBlobs(store, base, blob);
            int cost = 3;
            for (int place = 0; place < newerLength; place++) {
                int partner = olderOf[place];
                int ahead = place == 0 ? NONE : olderOf[place - 1];
                if (partner == NONE) {
                    cost += place == 0 || ahead != NONE ? 2 : 1;
                } else if (ahead == NONE || ahead + 1 != partner) {
                    cost += 2;
                }
            }
            return cost;
        }
    }

    /** Renames, origins of lines, and histories of paths. */
    private static final class Tracer {
        private final Diff diff = new Diff();
        private final int[] likes = new int[PATHS * PATHS];
        private final int[] sources = new int[PATHS];
        private final long[] come = new long[WORDS];
        private final long[] belonging = new long[WORDS];
        private int atCommit;
        private int atPath;
        private int atPlace;

        private void findRenames(Store store, int from, int to, int limit) {
            Arrays.fill(sources, NONE);
            Arrays.fill(likes, NONE);
            if (limit <= 0) {
                return;
            }
            for (int path = 0; path < PATHS; path++) {
                int fresh = store.blobOf(from, path) == NONE ? store.blobOf(to, path) : NONE;
                for (int lost = 0; lost < PATHS && fresh != NONE; lost++) {
                    int gone = store.blobOf(to, lost) == NONE ? store.blobOf(from, lost) : NONE;
                    likes[path * PATHS + lost] = gone == NONE ? NONE : diff.likenessOf(store, gone, fresh);
                }
            }
            for (int round = 0; round < PATHS; round++) {
                int best = 0;
                for (int pair = 1; pair < PATHS * PATHS; pair++) {
                    best = likes[pair] > likes[best] ? pair : best;
                }
                if (likes[best] >= limit) {
                    sources[best / PATHS] = best % PATHS;
                    forgetPair(best / PATHS, best % PATHS);
                }
            }
        }

        private void forgetPair(int path, int lost) {
            for (int other = 0; other < PATHS; other++) {
                likes[path * PATHS + other] = NONE;
                likes[other * PATHS + lost] = NONE;
            }
        }

        private void trace(Store store, int commit, int path, int place, int limit) {
            atCommit = commit;
            atPath = path;
            atPlace = place;
            boolean known = true;
            for (int hop = 0; hop < SLOTS && known; hop++) {
                known = goToParent(store, 1, limit) || goToParent(store, 2, limit);
            }
        }

        private boolean goToParent(Store store, int side, int limit) {
            int parent = store.part(atCommit, side);
            if (parent == NONE) {
                return false;
            }
            int path = atPath;
            if (store.blobOf(parent, path) == NONE) {
                findRenames(store, parent, atCommit, limit);
                path = sources[path];
            }
            if (path == NONE) {
                return false;
            }
            diff.compareBlobs(store, store.blobOf(parent, path), store.blobOf(atCommit, atPath));
            int place = diff.olderOf[atPlace];
            if (place == NONE) {
                return false;
            }
            atCommit = parent;
            atPath = path;
            atPlace = place;
            return true;
        }

        private int listPath(Store store, int commit, int path, int[] into) {
            Arrays.fill(come, 0L);
            Arrays.fill(belonging, 0L);
            addTo(come, commit);
            // Parents have lower numbers, so each commit is come to before it is looked at.
            for (int each = commit; each >= 0; each--) {
                if (inSet(come, each)) {
                    stepPath(store, each, path);
                }
            }
            return store.listNewest(belonging, into);
        }

        private void stepPath(Store store, int commit, int path) {
            int blob = store.blobOf(commit, path);
            int one = store.part(commit, 1);
            int other = store.part(commit, 2);
            if (one != NONE && store.blobOf(one, path) == blob) {
                addTo(come, one);
            } else if (other != NONE && store.blobOf(other, path) == blob) {
                addTo(come, other);
            } else {
                addTo(come, one);
                addTo(come, other);
                if (one != NONE || other != NONE || blob != NONE) {
                    addTo(belonging, commit);
                }
            }
        }

        private boolean areDiffsSound(Store store) {
            for (int commit = 0; commit < store.count; commit++) {
                for (int side = 1; side <= 2 && store.kinds[commit] == COMMIT; side++) {
                    int parent = store.part(commit, side);
                    for (int path = 0; path < PATHS; path++) {
                        int from = store.blobOf(parent, path);
                        int to = store.blobOf(commit, path);
                        boolean both = from != NONE && to != NONE && from != to;
                        if (both && !diff.isPairedAsBackwards(store, from, to)) {
                            return false;
                        }
                    }
                }
            }
            return true;
        }

        private boolean areOriginsSound(Store store, int head) {
            for (int path = 0; path < PATHS; path++) {
                int blob = store.blobOf(head, path);
                if (store.rowLength(blob) > 0) {
                    trace(store, head, path, 0, 50);
                    int origin = store.blobOf(atCommit, atPath);
                    boolean there = origin != NONE && atPlace < store.rowLength(origin);
                    if (!there || !store.reaches(head, atCommit)) {
                        return false;
                    }
                    if (store.lines[store.rowStart(origin) + atPlace] != store.lines[store.rowStart(blob)]) {
                        return false;
                    }
                }
            }
            return true;
        }
    }

    /** Merges rows of lines, snapshots, and the bases of commits. */
    private static final class Merger {
        private static final int ROOM = 512;

        private final Diff toOurs = new Diff();
        private final Diff toTheirs = new Diff();
        private final int[] row = new int[ROOM];
        private int rowLength;
        private int clashes;
        /** The bounds of a stretch: from and to in the row of the base, then of ours, then of theirs. */
        private final int[] stretch = new int[6];
        /** The base, and further down those with which bases are merged to be one. */
        private final Snap base = new Snap();
        private final Snap baseBelow = new Snap();
        private final Snap baseFarBelow = new Snap();
        private final Snap lastBase = new Snap();
        private final Snap ours = new Snap();
        private final Snap theirs = new Snap();
        private final Snap result = new Snap();
        /** Bits of paths: where there is a conflict, where one side has nothing, where ours does not stay. */
        private int clashing;
        private int onesided;
        private int touched;
        private final long[][] covered = new long[DEEPEST_BASE + 1][WORDS];
        private final int[][] tops = new int[DEEPEST_BASE + 1][SLOTS];
        private final long[] looked = new long[WORDS];

        private Snap baseAt(int depth) {
            return depth == 0 ? base : depth == 1 ? baseBelow : depth == 2 ? baseFarBelow : lastBase;
        }

        // ---- rows

        /** A mark of 0 is none. */
        private void append(int mark, int[] lines, int from, int to) {
            if (mark != 0 && rowLength < ROOM) {
                row[rowLength] = mark;
                rowLength++;
            }
            for (int at = from; at < to && rowLength < ROOM; at++) {
                row[rowLength] = lines[at];
                rowLength++;
            }
        }

        /** What is nothing is a row without lines here. */
        private void mergeRows(Snap from, Snap our, Snap their, int path, int favour) {
            int at = path * MOST_LINES;
            toOurs.compare(from.lines, at, from.lengths[path], our.lines, at, our.lengths[path]);
            toTheirs.compare(from.lines, at, from.lengths[path], their.lines, at, their.lengths[path]);
            rowLength = 0;
            clashes = 0;
            Arrays.fill(stretch, at);
            boolean marked = favour == 0;
            int size = toOurs.olderLength;
            for (int fixed = 0; fixed <= size; fixed++) {
                boolean last = fixed == size;
                if (last || toOurs.newerOf[fixed] != NONE && toTheirs.newerOf[fixed] != NONE) {
                    stretch[1] = at + fixed;
                    stretch[3] = at + (last ? toOurs.newerLength : toOurs.newerOf[fixed]);
                    stretch[5] = at + (last ? toTheirs.newerLength : toTheirs.newerOf[fixed]);
                    if (isStretch(from.lines, 0, our.lines, 2)) {
                        append(0, their.lines, stretch[4], stretch[5]);
                    } else if (isStretch(from.lines, 0, their.lines, 4) || isStretch(our.lines, 2, their.lines, 4)) {
                        append(0, our.lines, stretch[2], stretch[3]);
                    } else {
                        clashes++;
                        append(marked ? 100 : 0, our.lines, stretch[2], favour == 2 ? stretch[2] : stretch[3]);
                        append(marked ? 101 : 0, their.lines, stretch[4], favour == 1 ? stretch[4] : stretch[5]);
                        append(marked ? 102 : 0, their.lines, 0, 0);
                    }
                    append(0, from.lines, at + fixed, last ? at + fixed : at + fixed + 1);
                    stretch[0] = stretch[1] + 1;
                    stretch[2] = stretch[3] + 1;
                    stretch[4] = stretch[5] + 1;
                }
            }
        }

        private boolean isStretch(int[] lines, int bound, int[] others, int otherBound) {
            int length = stretch[bound + 1] - stretch[bound];
            boolean same = length == stretch[otherBound + 1] - stretch[otherBound];
            for (int place = 0; place < length && same; place++) {
                same = lines[stretch[bound] + place] == others[stretch[otherBound] + place];
            }
            return same;
        }

        // ---- snapshots

        private void mergeAll(Snap from, Snap our, Snap their, int favour) {
            clashing = 0;
            onesided = 0;
            touched = 0;
            for (int path = 0; path < PATHS; path++) {
                if (our.isSameAt(path, their) || their.isSameAt(path, from)) {
                    result.putPath(path, our);
                } else if (our.isSameAt(path, from)) {
                    result.putPath(path, their);
                } else if (our.lengths[path] == NONE || their.lengths[path] == NONE) {
                    clashing |= 1 << path;
                    onesided |= 1 << path;
                    result.putPath(path, our.lengths[path] == NONE ? their : our);
                } else {
                    mergeRows(from, our, their, path, favour);
                    boolean tooLong = rowLength > MOST_LINES;
                    if (tooLong || clashes > 0 && favour == 0) {
                        clashing |= 1 << path;
                    }
                    if (tooLong) {
                        result.putPath(path, our);
                    } else {
                        result.put(path, row, 0, rowLength);
                    }
                }
                if (hasBit(clashing, path) || !result.isSameAt(path, our)) {
                    touched |= 1 << path;
                }
            }
        }

        private void mergeCommits(Store store, int our, int their) {
            store.ancestors(our, covered[0]);
            makeBase(this, store, their, 0);
            ours.putSnapshot(store, our);
            theirs.putSnapshot(store, their);
            mergeAll(base, ours, theirs, 0);
        }

        // ---- bases

        /**
         * Makes the base snapshot of a commit and of a set, whose ancestors are covered at that depth. The snapshot
         * of theirs is used for the bases one by one, so it is to be loaded behind this.
         */
        private static void makeBase(Merger merger, Store store, int commit, int depth) {
            if (depth > DEEPEST_BASE) {
                return;
            }
            Snap made = merger.baseAt(depth);
            int[] tops = merger.tops[depth];
            int count = merger.listTops(store, commit, depth);
            made.empty();
            if (count > 0) {
                made.putSnapshot(store, tops[0]);
            }
            if (count <= 1 || depth == DEEPEST_BASE) {
                return;
            }
            Arrays.fill(merger.covered[depth + 1], 0L);
            for (int place = 1; place < count; place++) {
                store.addReach(tops[place - 1], merger.covered[depth + 1]);
                makeBase(merger, store, tops[place], depth + 1);
                merger.theirs.putSnapshot(store, tops[place]);
                Snap below = merger.baseAt(depth + 1);
                merger.mergeAll(below, made, merger.theirs, 0);
                for (int path = 0; path < PATHS; path++) {
                    made.putPath(path, hasBit(merger.onesided, path) ? below : merger.result);
                }
            }
        }

        private int listTops(Store store, int commit, int depth) {
            store.ancestors(commit, looked);
            for (int word = 0; word < WORDS; word++) {
                looked[word] &= covered[depth][word];
            }
            store.keepTops(looked);
            int count = 0;
            for (int each = 0; each < store.count; each++) {
                if (inSet(looked, each)) {
                    tops[depth][count] = each;
                    count++;
                }
            }
            return count;
        }
    }

    /** One repository, and what is done with its index, its files, HEAD and commits. */
    private static final class Repo {
        private final Store store = new Store();
        private final Desk desk = new Desk();
        private final Desk savedDesk = new Desk();
        private final State state = new State();
        private final State savedState = new State();
        private final Search search = new Search();
        private final Merger merger = new Merger();
        private final Snap secondResult = new Snap();
        private final int[] blobs = new int[PATHS];
        private final int[] row = new int[SLOTS];
        private final long[] mine = new long[WORDS];
        private final long[] upstreams = new long[WORDS];

        private void save() {
            store.save();
            savedDesk.copyFrom(desk);
            savedState.copyFrom(state);
        }

        private int undo() {
            store.undo();
            desk.copyFrom(savedDesk);
            state.copyFrom(savedState);
            return REFUSED;
        }

        // ---- the index and the files

        private boolean fileAsIndex(int path) {
            int blob = desk.entries[path];
            int length = blob == NONE ? NONE : store.lengths[blob];
            return !hasBit(desk.conflicts, path) && desk.files.lengths[path] == length
                    && areSameRows(desk.files.lines, path * MOST_LINES, store.lines, blob * MOST_LINES, length);
        }

        private boolean isTrackedAsIndex() {
            for (int path = 0; path < PATHS; path++) {
                if (desk.isTracked(path) && !fileAsIndex(path)) {
                    return false;
                }
            }
            return true;
        }

        private boolean isIndexAsHead() {
            int head = state.headCommit();
            boolean same = desk.conflicts == 0;
            for (int path = 0; path < PATHS && same; path++) {
                same = desk.entries[path] == store.blobOf(head, path);
            }
            return same;
        }

        private int keepFile(int path) {
            int blob = store.keepRow(desk.files, path, state.clock);
            if (blob != REFUSED) {
                desk.setEntry(path, blob);
            }
            return blob;
        }

        private int addPath(int path) {
            if (desk.files.lengths[path] == NONE && !desk.isTracked(path)) {
                return REFUSED;
            }
            return keepFile(path);
        }

        private int addEvery() {
            save();
            int others = 0;
            for (int path = 0; path < PATHS; path++) {
                boolean found = desk.files.lengths[path] != NONE && !hasBit(desk.ignored, path);
                if (found || desk.isTracked(path)) {
                    boolean conflict = hasBit(desk.conflicts, path);
                    int before = desk.entries[path];
                    int blob = keepFile(path);
                    if (blob == REFUSED) {
                        return undo();
                    }
                    others += conflict || blob != before ? 1 : 0;
                }
            }
            return others;
        }

        private void indexSnapshot(int commit) {
            for (int path = 0; path < PATHS; path++) {
                desk.setEntry(path, store.blobOf(commit, path));
            }
        }

        private void force(int commit) {
            for (int path = 0; path < PATHS; path++) {
                int blob = store.blobOf(commit, path);
                if (blob != NONE || desk.isTracked(path)) {
                    desk.setBoth(path, store, blob);
                }
            }
        }

        private boolean canCarry(int from, Store other, int to) {
            for (int path = 0; path < PATHS; path++) {
                int older = store.blobOf(from, path);
                int newer = other.blobOf(to, path);
                if (!store.isSameBlob(older, other, newer) && !(desk.entries[path] == older && fileAsIndex(path))) {
                    boolean settled = store.isSameBlob(desk.entries[path], other, newer);
                    if (hasBit(desk.conflicts, path) || !settled) {
                        return false;
                    }
                }
            }
            return true;
        }

        /** Whether all can be carried must have been asked: here it would be too late to refuse. */
        private void carry(int from, int to) {
            for (int path = 0; path < PATHS; path++) {
                int older = store.blobOf(from, path);
                int newer = store.blobOf(to, path);
                if (older != newer && desk.entries[path] == older && fileAsIndex(path)) {
                    desk.setEntry(path, newer);
                    desk.files.putBlob(path, store, newer);
                }
            }
        }

        // ---- commits and HEAD

        private int commitIndex(int author, int message) {
            if (state.isBusy() || isIndexAsHead() || desk.conflicts != 0) {
                return REFUSED;
            }
            return commitOver(state.headCommit(), NONE, author, message, ACT_COMMIT);
        }

        private int amendHead(int author, int message) {
            int head = state.headCommit();
            if (state.isBusy() || head == NONE || desk.conflicts != 0) {
                return REFUSED;
            }
            return commitOver(store.part(head, 1), store.part(head, 2), author, message, ACT_AMEND);
        }

        private int commitOver(int parent, int other, int author, int message, int act) {
            store.save();
            int made = store.keepCommit(desk.entries, parent, other, author, message, state.clock);
            if (made == REFUSED) {
                store.undo();
            } else {
                state.moveHead(made, act);
            }
            return made;
        }

        private boolean canGo(int commit) {
            return !state.isBusy() && desk.conflicts == 0 && canCarry(state.headCommit(), store, commit);
        }

        private int switchHead(int branch) {
            int commit = state.branches[branch];
            if (commit == NONE || !canGo(commit)) {
                return REFUSED;
            }
            carry(state.headCommit(), commit);
            state.putOnBranch(branch, commit, ACT_SWITCH);
            return commit;
        }

        private int annotateCommit(int tag, int commit, int message) {
            if (state.tags[tag] != NONE) {
                return REFUSED;
            }
            int object = store.keepTag(commit, message, state.clock);
            if (object != REFUSED) {
                state.tags[tag] = object;
            }
            return object;
        }

        private int refCommit(int letter, int number) {
            if (number < 0 || number >= REFS) {
                return NONE;
            }
            if (letter == 'T') {
                return store.commitOf(state.tags[number]);
            }
            return letter == 'B' ? state.branches[number] : state.tracks[number];
        }

        private int describingTag(int commit) {
            int best = NONE;
            int bestAhead = 0;
            int bestDate = 0;
            for (int tag = 0; tag < REFS; tag++) {
                int named = store.commitOf(state.tags[tag]);
                if (named != NONE && store.reaches(commit, named)) {
                    int ahead = store.countAhead(commit, named);
                    int date = store.dates[named];
                    if (best == NONE || ahead < bestAhead || ahead == bestAhead && date > bestDate) {
                        best = tag;
                        bestAhead = ahead;
                        bestDate = date;
                    }
                }
            }
            return best;
        }

        // ---- merges and picks

        /** The base must have been made; answers whether what comes out can be taken. */
        private boolean canJoin(int theirs, int favour) {
            merger.ours.putSnapshot(store, state.headCommit());
            merger.theirs.putSnapshot(store, theirs);
            merger.mergeAll(merger.base, merger.ours, merger.theirs, favour);
            return isIndexAsHead() && !isInTheWay();
        }

        private boolean isInTheWay() {
            for (int path = 0; path < PATHS; path++) {
                if (hasBit(merger.touched, path) && !fileAsIndex(path)) {
                    return true;
                }
            }
            return false;
        }

        private int takeMerge(int theirs) {
            int head = state.headCommit();
            for (int path = 0; path < PATHS; path++) {
                if (hasBit(merger.touched, path)) {
                    boolean clash = hasBit(merger.clashing, path);
                    int blob = store.keepRow(clash ? merger.base : merger.result, path, state.clock);
                    if (blob == REFUSED) {
                        return REFUSED;
                    }
                    if (clash) {
                        desk.setConflict(path, blob, store.blobOf(head, path), store.blobOf(theirs, path));
                    } else {
                        desk.setEntry(path, blob);
                    }
                    desk.files.putPath(path, merger.result);
                }
            }
            return merger.clashing != 0 ? STOPPED : merger.touched != 0 ? MADE : UNTOUCHED;
        }

        private int commitOperation() {
            int other = state.operation == MERGE ? state.opCommit : NONE;
            int head = state.headCommit();
            int made = store.keepCommit(desk.entries, head, other, state.opAuthor, state.opMessage, state.clock);
            if (made == REFUSED) {
                return REFUSED;
            }
            state.moveHead(made, state.operation + ACT_OF_OPERATION);
            return MADE;
        }

        private int conclude(int outcome) {
            if (outcome == REFUSED) {
                undo();
            } else if (outcome != STOPPED) {
                state.finish();
            }
            return outcome;
        }

        private int mergeCommit(int commit, int mode, int favour, int author, int message) {
            int head = state.headCommit();
            if (state.isBusy() || head == NONE) {
                return REFUSED;
            }
            if (store.reaches(head, commit)) {
                return UNTOUCHED;
            }
            if (mode != 1 && store.reaches(commit, head)) {
                if (!canCarry(head, store, commit)) {
                    return REFUSED;
                }
                carry(head, commit);
                state.moveHead(commit, ACT_MERGE);
                return FORWARD;
            }
            if (mode == 2) {
                return REFUSED;
            }
            save();
            state.begin(MERGE, commit, author, message);
            store.ancestors(head, merger.covered[0]);
            Merger.makeBase(merger, store, commit, 0);
            int outcome = canJoin(commit, favour) ? takeMerge(commit) : REFUSED;
            if (outcome == MADE || outcome == UNTOUCHED) {
                outcome = commitOperation();
            }
            return conclude(outcome);
        }

        private boolean canPick(int commit, int mainline) {
            boolean two = store.part(commit, 2) != NONE;
            return !state.isBusy() && state.headCommit() != NONE && two == (mainline != 0);
        }

        private int pickCommit(int commit, int mainline, int favour) {
            if (!canPick(commit, mainline)) {
                return REFUSED;
            }
            save();
            state.begin(PICK, commit, store.authors[commit], store.messages[commit]);
            merger.base.putSnapshot(store, store.part(commit, Math.max(mainline, 1)));
            int outcome = canJoin(commit, favour) ? takeMerge(commit) : REFUSED;
            return conclude(outcome == MADE ? commitOperation() : outcome);
        }

        private int revertCommit(int commit, int mainline, int favour, int author, int message) {
            if (!canPick(commit, mainline)) {
                return REFUSED;
            }
            save();
            state.begin(REVERT, commit, author, message);
            merger.base.putSnapshot(store, commit);
            int theirs = store.part(commit, Math.max(mainline, 1));
            int outcome = canJoin(theirs, favour) ? takeMerge(theirs) : REFUSED;
            return conclude(outcome == MADE ? commitOperation() : outcome);
        }

        // ---- the rebase

        private int rebaseHead(int upstream, int onto, int favour) {
            int head = state.headCommit();
            if (state.isBusy() || head == NONE || !isIndexAsHead() || !isTrackedAsIndex()) {
                return REFUSED;
            }
            if (!canCarry(head, store, onto)) {
                return REFUSED;
            }
            save();
            planRebase(head, upstream);
            carry(head, onto);
            state.begin(REBASE, NONE, 0, 0);
            state.opFavour = favour;
            state.startOn = state.headOn;
            state.startAt = head;
            state.detachAt(onto, ACT_REBASE);
            return orUndo(rebaseOn());
        }

        private void planRebase(int head, int upstream) {
            store.ancestors(head, mine);
            store.ancestors(upstream, upstreams);
            for (int word = 0; word < WORDS; word++) {
                long both = mine[word] & upstreams[word];
                mine[word] &= ~both;
                upstreams[word] &= ~both;
            }
            int count = store.listNewest(mine, row);
            state.todoCount = 0;
            for (int place = count - 1; place >= 0; place--) {
                if (store.part(row[place], 2) == NONE && !isThereAlready(row[place])) {
                    state.todo[state.todoCount] = row[place];
                    state.todoCount++;
                }
            }
        }

        private boolean isThereAlready(int commit) {
            for (int other = 0; other < store.count; other++) {
                if (inSet(upstreams, other) && store.part(other, 2) == NONE && isSameChange(commit, other)) {
                    return true;
                }
            }
            return false;
        }

        private boolean isSameChange(int commit, int other) {
            for (int path = 0; path < PATHS; path++) {
                int from = store.blobOf(store.part(commit, 1), path);
                int to = store.blobOf(commit, path);
                int otherFrom = store.blobOf(store.part(other, 1), path);
                int otherTo = store.blobOf(other, path);
                boolean bothStay = from == to && otherFrom == otherTo;
                if (!bothStay && (from != otherFrom || to != otherTo)) {
                    return false;
                }
            }
            return true;
        }

        private int orUndo(int answer) {
            return answer == REFUSED ? undo() : answer;
        }

        private int rebaseOn() {
            for (int step = 0; step < SLOTS && state.todoCount > 0; step++) {
                int commit = state.takeTodo();
                int parent = store.part(commit, 1);
                if (parent != NONE && parent == state.headCommit()) {
                    if (!canCarry(parent, store, commit)) {
                        return REFUSED;
                    }
                    carry(parent, commit);
                    state.moveHead(commit, ACT_REBASE);
                } else {
                    state.begin(REBASE, commit, store.authors[commit], store.messages[commit]);
                    merger.base.putSnapshot(store, parent);
                    int outcome = canJoin(commit, state.opFavour) ? takeMerge(commit) : REFUSED;
                    if (outcome == MADE) {
                        outcome = commitOperation();
                    }
                    if (outcome == REFUSED || outcome == STOPPED) {
                        return outcome;
                    }
                }
            }
            if (state.startOn != NONE) {
                state.putOnBranch(state.startOn, state.headCommit(), ACT_REBASE);
            }
            state.finish();
            return MADE;
        }

        private int proceedOn() {
            if (!state.isBusy() || desk.conflicts != 0) {
                return REFUSED;
            }
            save();
            if ((state.operation == MERGE || !isIndexAsHead()) && commitOperation() == REFUSED) {
                return undo();
            }
            if (state.operation == REBASE) {
                return orUndo(rebaseOn());
            }
            state.finish();
            return MADE;
        }

        private int skipStep() {
            if (state.operation != REBASE) {
                return REFUSED;
            }
            save();
            force(state.headCommit());
            return orUndo(rebaseOn());
        }

        private int abortOperation() {
            if (!state.isBusy()) {
                return REFUSED;
            }
            if (state.operation == REBASE) {
                force(state.startAt);
                if (state.startOn == NONE) {
                    state.detachAt(state.startAt, ACT_REBASE);
                } else {
                    state.putOnBranch(state.startOn, state.startAt, ACT_REBASE);
                }
            } else {
                giveBackHead();
            }
            state.finish();
            return state.headCommit();
        }

        /** Paths at which the index is as the head snapshot keep their files, whatever these are. */
        private void giveBackHead() {
            int head = state.headCommit();
            for (int path = 0; path < PATHS; path++) {
                int blob = store.blobOf(head, path);
                if (hasBit(desk.conflicts, path) || desk.entries[path] != blob) {
                    desk.setBoth(path, store, blob);
                }
            }
        }

        // ---- conflicts

        private int writeStage(int path, int stage) {
            if (!hasBit(desk.conflicts, path)) {
                return REFUSED;
            }
            desk.files.putBlob(path, store, desk.stages[path * STAGES + stage]);
            return desk.files.lengths[path];
        }

        private int mergeStages(int path, int favour) {
            int our = desk.stages[path * STAGES + 1];
            int their = desk.stages[path * STAGES + 2];
            if (our == NONE || their == NONE) {
                desk.files.putBlob(path, store, our == NONE ? their : our);
                return 0;
            }
            merger.base.putBlob(path, store, desk.stages[path * STAGES]);
            merger.ours.putBlob(path, store, our);
            merger.theirs.putBlob(path, store, their);
            merger.mergeRows(merger.base, merger.ours, merger.theirs, path, favour);
            if (merger.rowLength > MOST_LINES) {
                desk.files.putBlob(path, store, our);
            } else {
                desk.files.put(path, merger.row, 0, merger.rowLength);
            }
            return merger.clashes;
        }

        // ---- stashes

        private int stashAway(int author, int message) {
            int head = state.headCommit();
            if (state.isBusy() || head == NONE || desk.conflicts != 0) {
                return REFUSED;
            }
            if (isIndexAsHead() && isTrackedAsIndex()) {
                return NONE;
            }
            if (state.stashCount >= MOST_STASHES) {
                return REFUSED;
            }
            store.save();
            int made = keepStash(head, author, message);
            if (made == REFUSED) {
                store.undo();
            } else {
                state.putStash(made);
                force(head);
            }
            return made;
        }

        private int keepStash(int head, int author, int message) {
            int index = store.keepCommit(desk.entries, head, NONE, author, message, state.clock);
            if (index == REFUSED) {
                return REFUSED;
            }
            for (int path = 0; path < PATHS; path++) {
                blobs[path] = desk.isTracked(path) ? store.keepRow(desk.files, path, state.clock) : NONE;
                if (blobs[path] == REFUSED) {
                    return REFUSED;
                }
            }
            return store.keepCommit(blobs, head, index, author, message, state.clock);
        }

        /** Answers MADE if there was no conflict, STOPPED if there was one. */
        private int applyStash(int stash, boolean withIndex) {
            if (state.isBusy() || desk.conflicts != 0) {
                return REFUSED;
            }
            merger.base.putSnapshot(store, store.part(stash, 1));
            for (int path = 0; path < PATHS; path++) {
                merger.ours.putBlob(path, store, desk.entries[path]);
            }
            if (withIndex) {
                merger.theirs.putSnapshot(store, store.part(stash, 2));
                merger.mergeAll(merger.base, merger.ours, merger.theirs, 0);
                if (merger.clashing != 0) {
                    return REFUSED;
                }
                secondResult.copyFrom(merger.result);
            }
            merger.theirs.putSnapshot(store, stash);
            merger.mergeAll(merger.base, merger.ours, merger.theirs, 0);
            if (isInTheWay()) {
                return REFUSED;
            }
            save();
            if (takeFiles(stash) == REFUSED || withIndex && takeIndex() == REFUSED) {
                return undo();
            }
            return merger.clashing != 0 ? STOPPED : MADE;
        }

        private int takeFiles(int stash) {
            int from = store.part(stash, 1);
            for (int path = 0; path < PATHS; path++) {
                if (hasBit(merger.touched, path)) {
                    int our = desk.entries[path];
                    if (hasBit(merger.clashing, path)) {
                        desk.setConflict(path, store.blobOf(from, path), our, store.blobOf(stash, path));
                    } else if (our == NONE) {
                        int blob = store.keepRow(merger.result, path, state.clock);
                        if (blob == REFUSED) {
                            return REFUSED;
                        }
                        desk.setEntry(path, blob);
                    }
                    desk.files.putPath(path, merger.result);
                }
            }
            return MADE;
        }

        private int takeIndex() {
            for (int path = 0; path < PATHS; path++) {
                if (!hasBit(merger.clashing, path)) {
                    int blob = store.keepRow(secondResult, path, state.clock);
                    if (blob == REFUSED) {
                        return REFUSED;
                    }
                    desk.setEntry(path, blob);
                }
            }
            return MADE;
        }

        // ---- what is sound

        private boolean areMergesSound() {
            boolean sound = true;
            for (int pair = 0; pair < REFS * REFS && sound; pair++) {
                int commit = state.branches[pair / REFS];
                int other = state.branches[pair % REFS];
                if (pair / REFS < pair % REFS && commit != NONE && other != NONE) {
                    merger.mergeCommits(store, commit, other);
                    int clashing = merger.clashing;
                    secondResult.copyFrom(merger.result);
                    merger.mergeCommits(store, other, commit);
                    sound = clashing == merger.clashing && isSecondResult();
                }
            }
            return sound;
        }

        /** What is left in a conflict tells ours ahead of theirs, so it may be another both ways. */
        private boolean isSecondResult() {
            boolean same = true;
            for (int path = 0; path < PATHS && same; path++) {
                same = hasBit(merger.clashing, path) || secondResult.isSameAt(path, merger.result);
            }
            return same;
        }

        private boolean isOperationSound() {
            if (!state.isBusy()) {
                return true;
            }
            boolean sound = state.headCommit() != NONE && store.hasKind(state.opCommit, COMMIT);
            if (state.operation == REBASE) {
                sound = sound && state.headOn == NONE;
                for (int place = 0; place < state.todoCount; place++) {
                    sound = sound && store.hasKind(state.todo[place], COMMIT);
                }
            }
            return sound;
        }

        private boolean areStashesSound() {
            for (int place = 0; place < state.stashCount; place++) {
                int stash = state.stashes[place];
                int parent = store.part(stash, 1);
                int index = store.part(stash, 2);
                boolean commits = store.hasKind(stash, COMMIT) && store.hasKind(parent, COMMIT);
                boolean alone = store.part(index, 1) == parent && store.part(index, 2) == NONE;
                if (!commits || !store.hasKind(index, COMMIT) || !alone) {
                    return false;
                }
            }
            return true;
        }
    }

    /** What is sent from one repository to the other one, and what was told of the latest transfer. */
    private static final class Transfer {
        private int rounds;
        private int told;
        private int sent;
        private int doubles;
        /** For each object of the sender its twin in the receiver, and the other way round. */
        private final int[] twins = new int[SLOTS];
        private final int[] backTwins = new int[SLOTS];
        private final int[] wanted = new int[2 * REFS];
        private int wantedCount;
        private final int[] order = new int[SLOTS];
        private final long[] toldOf = new long[WORDS];
        private final long[] common = new long[WORDS];
        private final long[] packed = new long[WORDS];
        private final long[] covered = new long[WORDS];
        private final long[] placed = new long[WORDS];

        private void findTwins(Store from, Store to) {
            Arrays.fill(twins, NONE);
            Arrays.fill(backTwins, NONE);
            for (int object = 0; object < from.count; object++) {
                if (from.kinds[object] != NONE && to.draftTwin(from, object, twins)) {
                    int found = to.find(to.count);
                    twins[object] = found;
                    if (found != NONE) {
                        backTwins[found] = object;
                    }
                }
            }
        }

        private int twinOf(Store from, Store to, int object) {
            findTwins(from, to);
            return twins[object];
        }

        /** What is wanted twice is sent once, as what is sent is a set. */
        private void want(int object) {
            if (object != NONE && twins[object] == NONE && wantedCount < wanted.length) {
                wanted[wantedCount] = object;
                wantedCount++;
            }
        }

        /** Answers how many rounds there were. */
        private int tell(Store receiver) {
            Arrays.fill(toldOf, 0L);
            Arrays.fill(common, 0L);
            int count = receiver.listNewest(receiver.commits, order);
            int turns = 0;
            for (int turn = 0; turn < SLOTS; turn++) {
                int first = NONE;
                int telling = 0;
                for (int place = 0; place < count && telling < TOLD_A_ROUND; place++) {
                    int commit = order[place];
                    if (!inSet(toldOf, commit) && !inSet(common, commit)) {
                        addTo(toldOf, commit);
                        first = first == NONE ? place : first;
                        telling++;
                    }
                }
                if (telling == 0) {
                    return turns;
                }
                turns++;
                answerFrom(receiver, first, count);
            }
            return turns;
        }

        /** From the first one told in the round on, there are told ones of that round alone. */
        private void answerFrom(Store receiver, int from, int count) {
            for (int place = from; place < count; place++) {
                int commit = order[place];
                if (inSet(toldOf, commit) && backTwins[commit] != NONE) {
                    receiver.addReach(commit, common);
                }
            }
        }

        private void findPack(Store sender, Store receiver) {
            Arrays.fill(packed, 0L);
            Arrays.fill(covered, 0L);
            for (int place = 0; place < wantedCount; place++) {
                sender.addReach(wanted[place], packed);
            }
            for (int commit = 0; commit < receiver.count; commit++) {
                if (inSet(common, commit)) {
                    sender.addReach(backTwins[commit], covered);
                }
            }
            for (int word = 0; word < WORDS; word++) {
                packed[word] &= ~covered[word];
            }
        }

        private int orderPack(Store sender) {
            Arrays.fill(placed, 0L);
            int count = 0;
            for (int commit = 0; commit < sender.count; commit++) {
                if (inSet(packed, commit) && sender.kinds[commit] == COMMIT) {
                    int root = sender.part(commit, 0);
                    for (int object = 0; object <= root; object++) {
                        if (sender.reaches(root, object) && inSet(packed, object) && !inSet(placed, object)) {
                            order[count] = object;
                            count++;
                            addTo(placed, object);
                        }
                    }
                    order[count] = commit;
                    count++;
                }
            }
            for (int object = 0; object < sender.count; object++) {
                if (inSet(packed, object) && sender.kinds[object] == TAG) {
                    order[count] = object;
                    count++;
                }
            }
            return count;
        }

        private int send(Store sender, Store receiver, int limit, int clock) {
            int turns = 0;
            int count = 0;
            Arrays.fill(toldOf, 0L);
            if (wantedCount > 0) {
                turns = tell(receiver);
                findPack(sender, receiver);
                count = orderPack(sender);
            }
            int most = Math.min(count, limit);
            int twice = 0;
            for (int place = 0; place < most; place++) {
                int object = order[place];
                int before = receiver.count;
                int number = receiver.draftTwin(sender, object, twins) ? receiver.keep(clock) : REFUSED;
                if (number == REFUSED) {
                    return REFUSED;
                }
                twins[object] = number;
                twice += receiver.count == before ? 1 : 0;
            }
            rounds = turns;
            told = countOf(toldOf);
            sent = most;
            doubles = twice;
            return count > limit ? BROKEN : THROUGH;
        }

        private int fetchInto(Repo here, Repo there, int limit) {
            findTwins(there.store, here.store);
            wantedCount = 0;
            for (int branch = 0; branch < REFS; branch++) {
                want(there.state.branches[branch]);
            }
            int tags = tagsToTake(here, there);
            for (int tag = 0; tag < REFS; tag++) {
                if (hasBit(tags, tag)) {
                    want(there.state.tags[tag]);
                }
            }
            here.store.save();
            int outcome = send(there.store, here.store, limit, here.state.clock);
            if (outcome == REFUSED) {
                here.store.undo();
                return REFUSED;
            }
            return outcome == BROKEN ? NONE : takeRefs(here.state, there.state, tags);
        }

        private static int tagsToTake(Repo here, Repo there) {
            int bits = 0;
            for (int tag = 0; tag < REFS; tag++) {
                int commit = there.store.commitOf(there.state.tags[tag]);
                boolean wants = commit != NONE && here.state.tags[tag] == NONE;
                boolean reached = false;
                for (int branch = 0; branch < REFS; branch++) {
                    reached = reached || there.store.reaches(there.state.branches[branch], commit);
                }
                bits |= wants && reached ? 1 << tag : 0;
            }
            return bits;
        }

        private int takeRefs(State here, State there, int tags) {
            int others = 0;
            for (int number = 0; number < REFS; number++) {
                if (there.branches[number] != NONE) {
                    int commit = twins[there.branches[number]];
                    others += here.tracks[number] != commit ? 1 : 0;
                    here.tracks[number] = commit;
                }
                if (hasBit(tags, number)) {
                    here.tags[number] = twins[there.tags[number]];
                    others++;
                }
            }
            return others;
        }

        private boolean canPush(Repo here, Repo there, int commit, int target, int how) {
            int before = there.state.branches[target];
            if (how == 0 && before != NONE && !here.store.reaches(commit, backTwins[before])) {
                return false;
            }
            if (how == 2 && !isAsTracked(here.state.tracks[target], before)) {
                return false;
            }
            if (there.state.headOn != target) {
                return true;
            }
            boolean ready = !there.state.isBusy() && there.isIndexAsHead();
            return ready && there.canCarry(before, here.store, commit);
        }

        private boolean isAsTracked(int track, int commit) {
            return track == NONE || commit == NONE ? track == commit : twins[track] == commit;
        }

        private int pushInto(Repo here, Repo there, int branch, int target, int how, int limit) {
            int commit = here.state.branches[branch];
            findTwins(here.store, there.store);
            if (commit == NONE || !canPush(here, there, commit, target, how)) {
                return REFUSED;
            }
            wantedCount = 0;
            want(commit);
            there.store.save();
            int outcome = send(here.store, there.store, limit, there.state.clock);
            if (outcome == REFUSED) {
                there.store.undo();
                return REFUSED;
            }
            if (outcome == BROKEN) {
                return NONE;
            }
            int pushed = twins[commit];
            if (there.state.headOn == target) {
                there.carry(there.state.branches[target], pushed);
                there.state.moveHead(pushed, ACT_PUSH);
            } else {
                there.state.branches[target] = pushed;
            }
            here.state.tracks[target] = commit;
            return pushed;
        }

        private int deleteThere(Repo here, Repo there, int target) {
            int commit = there.state.branches[target];
            findTwins(here.store, there.store);
            boolean same = isAsTracked(here.state.tracks[target], commit);
            if (commit == NONE || !same || there.state.isHeld(target)) {
                return REFUSED;
            }
            there.state.branches[target] = NONE;
            here.state.tracks[target] = NONE;
            return commit;
        }

        /** As each commit of the receiver is told or common in the end, common are all that have twins. */
        private int countPack(Store sender, Store receiver, int commit) {
            findTwins(sender, receiver);
            wantedCount = 0;
            want(commit);
            Arrays.fill(common, 0L);
            for (int object = 0; object < sender.count; object++) {
                if (sender.kinds[object] == COMMIT && twins[object] != NONE) {
                    addTo(common, twins[object]);
                }
            }
            findPack(sender, receiver);
            return countOf(packed);
        }

        private boolean areTwinsSound(Store here, Store there) {
            findTwins(there, here);
            System.arraycopy(twins, 0, order, 0, SLOTS);
            findTwins(here, there);
            for (int object = 0; object < here.count; object++) {
                int twin = twins[object];
                if (twin != NONE && (order[twin] != object || !arePartsTwins(here, object, there, twin))) {
                    return false;
                }
            }
            return true;
        }

        private boolean arePartsTwins(Store here, int object, Store there, int twin) {
            for (int place = 0; place < PARTS; place++) {
                int part = here.part(object, place);
                int other = there.part(twin, place);
                if (part == NONE ? other != NONE : twins[part] != other) {
                    return false;
                }
            }
            return true;
        }
    }

    /** What is reached, what is collected, and how blobs are packed. */
    private static final class Packs {
        private final Diff diff = new Diff();
        private final long[] reached = new long[WORDS];
        private final long[] parts = new long[WORDS];
        private final int[] order = new int[SLOTS];

        private void findReached(Repo here) {
            Store store = here.store;
            State state = here.state;
            Arrays.fill(reached, 0L);
            for (int number = 0; number < REFS; number++) {
                store.addReach(state.branches[number], reached);
                store.addReach(state.tags[number], reached);
                store.addReach(state.tracks[number], reached);
            }
            store.addReach(state.headAt, reached);
            for (int path = 0; path < PATHS; path++) {
                store.addReach(here.desk.entries[path], reached);
            }
            for (int place = 0; place < PATHS * STAGES; place++) {
                store.addReach(here.desk.stages[place], reached);
            }
            for (int place = 0; place < state.logCount; place++) {
                store.addReach(state.logCommit(place), reached);
            }
            for (int place = 0; place < state.stashCount; place++) {
                store.addReach(state.stashes[place], reached);
            }
            store.addReach(state.opCommit, reached);
            store.addReach(state.startAt, reached);
            for (int place = 0; place < state.todoCount; place++) {
                store.addReach(state.todo[place], reached);
            }
            here.search.addReached(store, reached);
        }

        private int collectFrom(Repo here, int grace) {
            Store store = here.store;
            findReached(here);
            for (int object = 0; object < store.count; object++) {
                if (store.kinds[object] != NONE && here.state.clock - store.stamps[object] < grace) {
                    store.addReach(object, reached);
                }
            }
            int collected = 0;
            for (int object = 0; object < store.count; object++) {
                if (store.kinds[object] != NONE && !inSet(reached, object)) {
                    store.remove(object);
                    collected++;
                }
            }
            return collected;
        }

        private int listDangling(Repo here, int[] into) {
            Store store = here.store;
            findReached(here);
            Arrays.fill(parts, 0L);
            for (int object = 0; object < store.count; object++) {
                for (int place = 0; place < PARTS && store.kinds[object] != NONE; place++) {
                    addTo(parts, store.part(object, place));
                }
            }
            int count = 0;
            for (int object = 0; object < store.count; object++) {
                if (store.kinds[object] != NONE && !inSet(reached, object) && !inSet(parts, object)) {
                    into[count] = object;
                    count++;
                }
            }
            return count;
        }

        private void packAll(Store store, int window, int depth) {
            for (int object = 0; object < store.count; object++) {
                store.packed[object] = store.kinds[object] == NONE ? 0 : 1;
                store.deltaBases[object] = NONE;
            }
            int count = 0;
            for (int length = MOST_LINES; length >= 0; length--) {
                for (int blob = store.count - 1; blob >= 0; blob--) {
                    if (store.kinds[blob] == BLOB && store.lengths[blob] == length) {
                        order[count] = blob;
                        packBlob(store, count, window, depth);
                        count++;
                    }
                }
            }
        }

        /** Of several cheapest bases the one packed last is due, so that is tried first. */
        private void packBlob(Store store, int place, int window, int depth) {
            int blob = order[place];
            int least = store.wholeCost(blob);
            for (int back = 1; back <= window && back <= place; back++) {
                int base = order[place - back];
                if (store.deltaDepth(base) < depth) {
                    int cost = diff.deltaCostOf(store, base, blob);
                    if (cost < least) {
                        least = cost;
                        store.deltaBases[blob] = base;
                    }
                }
            }
        }

        private int costOfAll(Store store) {
            int cost = 0;
            for (int object = 0; object < store.count; object++) {
                int base = store.deltaBases[object];
                if (store.kinds[object] != NONE) {
                    cost += base == NONE ? store.wholeCost(object) : diff.deltaCostOf(store, base, object);
                }
            }
            return cost;
        }

        private int readLine(Store store, int blob, int place) {
            int at = blob;
            int line = place;
            for (int step = 0; step < SLOTS && store.deltaBases[at] != NONE; step++) {
                int base = store.deltaBases[at];
                diff.compareBlobs(store, base, at);
                if (diff.olderOf[line] == NONE) {
                    return store.lines[at * MOST_LINES + line];
                }
                line = diff.olderOf[line];
                at = base;
            }
            return store.lines[at * MOST_LINES + line];
        }

        private boolean arePacksSound(Repo here) {
            Store store = here.store;
            findReached(here);
            for (int object = 0; object < store.count; object++) {
                if (inSet(reached, object) && !store.has(object)) {
                    return false;
                }
                if (store.hasKind(object, BLOB) && !isDeltaSound(store, object)) {
                    return false;
                }
            }
            return true;
        }

        private boolean isDeltaSound(Store store, int blob) {
            int base = store.deltaBases[blob];
            if (base != NONE && !store.hasKind(base, BLOB) || store.deltaDepth(blob) > DEEPEST_DELTA) {
                return false;
            }
            for (int place = 0; place < store.lengths[blob] && base != NONE; place++) {
                if (readLine(store, blob, place) != store.lines[blob * MOST_LINES + place]) {
                    return false;
                }
            }
            return true;
        }
    }

    /** A bisection; none is in progress while there is no bad commit. */
    private static final class Search {
        private int bad = NONE;
        private final long[] good = new long[WORDS];
        private final long[] skipped = new long[WORDS];
        private final long[] left = new long[WORDS];
        private final long[] rest = new long[WORDS];
        private final long[] none = new long[WORDS];

        private void start(int badCommit, int goodCommit) {
            bad = badCommit;
            Arrays.fill(good, 0L);
            Arrays.fill(skipped, 0L);
            addTo(good, goodCommit);
        }

        private void addReached(Store store, long[] into) {
            if (bad != NONE) {
                store.addReach(bad, into);
                for (int commit = 0; commit < store.count; commit++) {
                    if (inSet(good, commit) || inSet(skipped, commit)) {
                        store.addReach(commit, into);
                    }
                }
            }
        }

        /** Answers how many are left; without a bisection there are none. */
        private int findLeft(Store store) {
            Arrays.fill(left, 0L);
            if (bad != NONE) {
                Arrays.fill(rest, 0L);
                for (int commit = 0; commit < store.count; commit++) {
                    if (inSet(good, commit)) {
                        store.addReach(commit, rest);
                    }
                }
                store.ancestors(bad, left);
                for (int word = 0; word < WORDS; word++) {
                    left[word] &= ~rest[word];
                }
            }
            return countOf(left);
        }

        private int countSkipped() {
            int count = 0;
            for (int word = 0; word < WORDS; word++) {
                count += Long.bitCount(left[word] & skipped[word]);
            }
            return count;
        }

        private int nextToTest(Store store) {
            return nextOf(store, left, bad, skipped);
        }

        private static int nextOf(Store store, long[] among, int badCommit, long[] passedOver) {
            int size = countOf(among);
            int best = NONE;
            int bestValue = NONE;
            for (int commit = 0; commit < store.count; commit++) {
                if (inSet(among, commit) && commit != badCommit && !inSet(passedOver, commit)) {
                    int weight = store.countWithin(commit, among);
                    int value = Math.min(weight, size - weight);
                    if (value > bestValue) {
                        best = commit;
                        bestValue = value;
                    }
                }
            }
            return best;
        }

        /** Answers how many tests the search for a commit makes that is left; what it ends with stays in the rest. */
        private int searchFor(Store store, int culprit) {
            System.arraycopy(left, 0, rest, 0, WORDS);
            int badCommit = bad;
            int count = 0;
            for (int test = 0; test < SLOTS && countOf(rest) > 1; test++) {
                int tested = nextOf(store, rest, badCommit, none);
                boolean isBad = store.reaches(tested, culprit);
                for (int word = 0; word < WORDS && tested != NONE; word++) {
                    long under = store.reach[tested * WORDS + word];
                    rest[word] &= isBad ? under : ~under;
                }
                badCommit = isBad ? tested : badCommit;
                count++;
            }
            return count;
        }

        private int mostTests(Store store) {
            findLeft(store);
            int most = 0;
            for (int commit = 0; commit < store.count; commit++) {
                if (inSet(left, commit)) {
                    most = Math.max(most, searchFor(store, commit));
                }
            }
            return most;
        }

        private boolean isSearchSound(Store store) {
            if (bad == NONE) {
                return true;
            }
            findLeft(store);
            boolean sound = inSet(left, bad);
            for (int commit = 0; commit < store.count; commit++) {
                if (inSet(left, commit)) {
                    searchFor(store, commit);
                    sound = sound && countOf(rest) == 1 && inSet(rest, commit);
                }
            }
            return sound;
        }
    }
}
