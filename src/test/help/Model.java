import java.util.ArrayList;
import java.util.Arrays;
import java.util.Collections;
import java.util.HashMap;
import java.util.HashSet;
import java.util.List;
import java.util.Map;
import java.util.Set;
import java.util.TreeSet;
import java.util.function.IntSupplier;

/**
 * A second reading of the document, with Java's collections, without regard to speed or room: what the class answers
 * is compared with what this answers. Nothing here was taken from the class.
 */
public final class Model {
    static final int NONE = -1;

    static final class Obj {
        int kind;
        List<Integer> lines = List.of();
        List<Integer> parts = List.of();
        int author;
        int date;
        int message;
        int stamp;
        boolean present = true;
        boolean packed;
        int base = NONE;

        boolean holdsSame(Obj o) {
            return kind == o.kind && lines.equals(o.lines) && parts.equals(o.parts) && author == o.author
                    && date == o.date && message == o.message;
        }

        Obj copy() {
            Obj o = new Obj();
            o.kind = kind;
            o.lines = lines;
            o.parts = parts;
            o.author = author;
            o.date = date;
            o.message = message;
            o.stamp = stamp;
            o.present = present;
            o.packed = packed;
            o.base = base;
            return o;
        }
    }

    /** What the index has at a path: nothing is null, an entry has one blob, a conflict has three stages. */
    record Slot(int entry, List<Integer> stages) {
        boolean conflict() {
            return stages != null;
        }
    }

    record Log(int commit, int act, int date) {
    }

    static final class Op {
        int kind;
        int commit = NONE;
        int author;
        int message;
        int favour;
        List<Integer> todo = new ArrayList<>();
        int startBranch = NONE;
        int startCommit = NONE;

        Op copy() {
            Op o = new Op();
            o.kind = kind;
            o.commit = commit;
            o.author = author;
            o.message = message;
            o.favour = favour;
            o.todo = new ArrayList<>(todo);
            o.startBranch = startBranch;
            o.startCommit = startCommit;
            return o;
        }
    }

    static final class Bisect {
        int bad;
        Set<Integer> good = new TreeSet<>();
        Set<Integer> skipped = new TreeSet<>();

        Bisect copy() {
            Bisect b = new Bisect();
            b.bad = bad;
            b.good = new TreeSet<>(good);
            b.skipped = new TreeSet<>(skipped);
            return b;
        }
    }

    static final class Repo {
        List<Obj> objs = new ArrayList<>();
        int clock;
        List<List<Integer>> files = new ArrayList<>(Collections.nCopies(16, null));
        boolean[] ignored = new boolean[16];
        Slot[] index = new Slot[16];
        int[] branches = {-1, -1, -1, -1, -1, -1};
        int[] tags = {-1, -1, -1, -1, -1, -1};
        int[] tracks = {-1, -1, -1, -1, -1, -1};
        int headBranch = 0;
        int headDetached = NONE;
        List<Log> log = new ArrayList<>();
        Op op = new Op();
        List<Integer> stashes = new ArrayList<>();
        Bisect bisect;

        Repo copy() {
            Repo r = new Repo();
            for (Obj o : objs) {
                r.objs.add(o.copy());
            }
            r.clock = clock;
            r.files = new ArrayList<>(files);
            r.ignored = ignored.clone();
            r.index = index.clone();
            r.branches = branches.clone();
            r.tags = tags.clone();
            r.tracks = tracks.clone();
            r.headBranch = headBranch;
            r.headDetached = headDetached;
            r.log = new ArrayList<>(log);
            r.op = op.copy();
            r.stashes = new ArrayList<>(stashes);
            r.bisect = bisect == null ? null : bisect.copy();
            return r;
        }

        // ---- asking

        boolean there(int o) {
            return o >= 0 && o < objs.size() && objs.get(o).present;
        }

        boolean is(int o, int kind) {
            return there(o) && objs.get(o).kind == kind;
        }

        int head() {
            return headBranch == NONE ? headDetached : branches[headBranch];
        }

        boolean busy() {
            return op.kind != 0;
        }

        int[] snapshot(int commit) {
            int[] blobs = new int[16];
            Arrays.fill(blobs, NONE);
            if (commit != NONE) {
                Obj root = objs.get(objs.get(commit).parts.get(0));
                for (int folder = 0; folder < 4; folder++) {
                    if (root.parts.get(folder) != NONE) {
                        Obj tree = objs.get(root.parts.get(folder));
                        for (int name = 0; name < 4; name++) {
                            blobs[folder * 4 + name] = tree.parts.get(name);
                        }
                    }
                }
            }
            return blobs;
        }

        List<Integer> linesOf(int blob) {
            return blob == NONE ? null : objs.get(blob).lines;
        }

        List<List<Integer>> rows(int[] blobs) {
            List<List<Integer>> rows = new ArrayList<>();
            for (int b : blobs) {
                rows.add(linesOf(b));
            }
            return rows;
        }

        List<Integer> parents(int commit) {
            List<Integer> p = objs.get(commit).parts;
            return p.subList(1, p.size());
        }

        Set<Integer> ancestors(int commit) {
            Set<Integer> seen = new TreeSet<>();
            List<Integer> open = new ArrayList<>(List.of(commit));
            while (!open.isEmpty()) {
                int c = open.remove(open.size() - 1);
                if (seen.add(c)) {
                    open.addAll(parents(c));
                }
            }
            return seen;
        }

        boolean isAncestor(int a, int of) {
            return ancestors(of).contains(a);
        }

        Set<Integer> reach(int object) {
            Set<Integer> seen = new TreeSet<>();
            List<Integer> open = new ArrayList<>(List.of(object));
            while (!open.isEmpty()) {
                int c = open.remove(open.size() - 1);
                if (c != NONE && seen.add(c)) {
                    open.addAll(objs.get(c).parts);
                }
            }
            return seen;
        }

        List<Integer> newestFirst(Set<Integer> set) {
            List<Integer> out = new ArrayList<>();
            Set<Integer> left = new TreeSet<>(set);
            while (!left.isEmpty()) {
                int best = NONE;
                for (int c : left) {
                    boolean blocked = false;
                    for (int child : left) {
                        blocked |= parents(child).contains(c);
                    }
                    if (!blocked && (best == NONE || objs.get(c).date > objs.get(best).date
                            || objs.get(c).date == objs.get(best).date && c > best)) {
                        best = c;
                    }
                }
                out.add(best);
                left.remove(best);
            }
            return out;
        }

        Set<Integer> tops(Set<Integer> set) {
            Set<Integer> out = new TreeSet<>();
            for (int c : set) {
                boolean below = false;
                for (int d : set) {
                    below |= d != c && isAncestor(c, d);
                }
                if (!below) {
                    out.add(c);
                }
            }
            return out;
        }

        List<Integer> mergeBases(int a, int b) {
            Set<Integer> both = ancestors(a);
            both.retainAll(ancestors(b));
            return newestFirst(tops(both));
        }

        boolean fileAsIndex(int path) {
            Slot s = index[path];
            if (s == null) {
                return files.get(path) == null;
            }
            return !s.conflict() && files.get(path) != null && files.get(path).equals(linesOf(s.entry));
        }

        boolean tracked(int path) {
            return index[path] != null;
        }

        boolean anyConflict() {
            for (Slot s : index) {
                if (s != null && s.conflict()) {
                    return true;
                }
            }
            return false;
        }

        int entry(int path) {
            return index[path] == null || index[path].conflict() ? NONE : index[path].entry;
        }

        int[] indexBlobs() {
            int[] b = new int[16];
            for (int p = 0; p < 16; p++) {
                b[p] = entry(p);
            }
            return b;
        }

        boolean indexTells(int[] snapshot) {
            return !anyConflict() && Arrays.equals(indexBlobs(), snapshot);
        }

        // ---- acting

        void setIndex(int path, int blob) {
            index[path] = blob == NONE ? null : new Slot(blob, null);
        }

        int store(Obj o) {
            for (int i = 0; i < objs.size(); i++) {
                if (objs.get(i).present && objs.get(i).holdsSame(o)) {
                    objs.get(i).stamp = clock;
                    return i;
                }
            }
            require(objs.size() < 240);
            o.stamp = clock;
            objs.add(o);
            return objs.size() - 1;
        }

        int storeBlob(List<Integer> lines) {
            Obj o = new Obj();
            o.lines = List.copyOf(lines);
            return store(o);
        }

        int storeTree(List<Integer> entries) {
            Obj o = new Obj();
            o.kind = 1;
            o.parts = List.copyOf(entries);
            return store(o);
        }

        int storeSnapshot(int[] blobs) {
            List<Integer> folders = new ArrayList<>();
            for (int f = 0; f < 4; f++) {
                List<Integer> names = new ArrayList<>();
                boolean any = false;
                for (int n = 0; n < 4; n++) {
                    names.add(blobs[f * 4 + n]);
                    any |= blobs[f * 4 + n] != NONE;
                }
                folders.add(any ? storeTree(names) : NONE);
            }
            return storeTree(folders);
        }

        int storeCommit(int root, List<Integer> parents, int author, int message) {
            Obj o = new Obj();
            o.kind = 2;
            List<Integer> parts = new ArrayList<>();
            parts.add(root);
            parts.addAll(parents);
            o.parts = List.copyOf(parts);
            o.author = author;
            o.message = message;
            o.date = clock;
            return store(o);
        }

        void logPut(int commit, int act) {
            log.add(0, new Log(commit, act, clock));
            if (log.size() > 30) {
                log.remove(30);
            }
        }

        void moveHead(int commit, int act) {
            if (headBranch != NONE) {
                branches[headBranch] = commit;
            } else {
                headDetached = commit;
            }
            logPut(commit, act);
        }

        /** older and newer are rows, so that snapshots of the other repository can be asked about. */
        boolean canCarry(List<List<Integer>> older, List<List<Integer>> newer) {
            for (int p = 0; p < 16; p++) {
                if (!same(older.get(p), newer.get(p)) && !free(p, older.get(p)) && !settled(p, newer.get(p))) {
                    return false;
                }
            }
            return true;
        }

        boolean free(int p, List<Integer> older) {
            return !(index[p] != null && index[p].conflict()) && same(linesOf(entry(p)), older) && fileAsIndex(p);
        }

        boolean settled(int p, List<Integer> newer) {
            return !(index[p] != null && index[p].conflict()) && same(linesOf(entry(p)), newer);
        }

        void carry(int[] older, int[] newer) {
            require(canCarry(rows(older), rows(newer)));
            for (int p = 0; p < 16; p++) {
                if (older[p] != newer[p] && free(p, linesOf(older[p]))) {
                    setIndex(p, newer[p]);
                    files.set(p, linesOf(newer[p]));
                }
            }
        }

        void force(int[] snapshot) {
            for (int p = 0; p < 16; p++) {
                if (tracked(p) || snapshot[p] != NONE) {
                    setIndex(p, snapshot[p]);
                    files.set(p, linesOf(snapshot[p]));
                }
            }
        }

        int tagCommit(int tag) {
            int o = tags[tag];
            return o == NONE ? NONE : objs.get(o).kind == 3 ? objs.get(o).parts.get(0) : o;
        }

        boolean holds(int branch) {
            return headBranch == branch || op.kind == 4 && op.startBranch == branch;
        }

        Set<Integer> reachedAll() {
            Set<Integer> roots = new TreeSet<>();
            for (int i = 0; i < 6; i++) {
                roots.add(branches[i]);
                roots.add(tags[i]);
                roots.add(tracks[i]);
            }
            if (headBranch == NONE) {
                roots.add(headDetached);
            }
            for (Slot s : index) {
                if (s != null) {
                    if (s.conflict()) {
                        roots.addAll(s.stages);
                    } else {
                        roots.add(s.entry);
                    }
                }
            }
            for (Log l : log) {
                roots.add(l.commit);
            }
            roots.addAll(stashes);
            if (op.kind != 0) {
                roots.add(op.commit);
                roots.addAll(op.todo);
                roots.add(op.startCommit);
            }
            if (bisect != null) {
                roots.add(bisect.bad);
                roots.addAll(bisect.good);
                roots.addAll(bisect.skipped);
            }
            roots.remove(NONE);
            Set<Integer> all = new TreeSet<>();
            for (int r : roots) {
                all.addAll(reach(r));
            }
            return all;
        }

        Set<Integer> left() {
            Set<Integer> left = ancestors(bisect.bad);
            for (int g : bisect.good) {
                left.removeAll(ancestors(g));
            }
            return left;
        }

        int depth(int blob) {
            return objs.get(blob).base == NONE ? 0 : 1 + depth(objs.get(blob).base);
        }

        int whole(int o) {
            return switch (objs.get(o).kind) {
                case 0 -> 2 + objs.get(o).lines.size();
                case 1 -> 6;
                case 2 -> 8;
                default -> 5;
            };
        }

        int packSize() {
            int sum = 0;
            for (int i = 0; i < objs.size(); i++) {
                if (objs.get(i).present) {
                    int base = objs.get(i).base;
                    sum += base == NONE ? whole(i) : new D(linesOf(base), linesOf(i)).deltaCost();
                }
            }
            return sum;
        }
    }

    // ---- differences

    static final class D {
        final List<Integer> a;
        final List<Integer> b;
        final int[] toNew;
        final int[] toOld;
        final StringBuilder steps = new StringBuilder();
        int pairs;

        D(List<Integer> older, List<Integer> newer) {
            a = older == null ? List.of() : older;
            b = newer == null ? List.of() : newer;
            int n = a.size();
            int m = b.size();
            int[][] lcs = new int[n + 1][m + 1];
            for (int i = n - 1; i >= 0; i--) {
                for (int j = m - 1; j >= 0; j--) {
                    lcs[i][j] = Math.max(lcs[i + 1][j], lcs[i][j + 1]);
                    if (a.get(i).equals(b.get(j))) {
                        lcs[i][j] = Math.max(lcs[i][j], lcs[i + 1][j + 1] + 1);
                    }
                }
            }
            toNew = new int[n];
            toOld = new int[m];
            Arrays.fill(toNew, NONE);
            Arrays.fill(toOld, NONE);
            int i = 0;
            int j = 0;
            while (i < n || j < m) {
                if (i < n && j < m && a.get(i).equals(b.get(j))) {
                    toNew[i] = j;
                    toOld[j] = i;
                    steps.append('=');
                    pairs++;
                    i++;
                    j++;
                } else if (j == m || i < n && lcs[i + 1][j] >= lcs[i][j + 1]) {
                    steps.append('-');
                    i++;
                } else {
                    steps.append('+');
                    j++;
                }
            }
        }

        int likeness() {
            return a.size() + b.size() == 0 ? 100 : 200 * pairs / (a.size() + b.size());
        }

        /** Each hunk: the old and the new start, the old and the new length. */
        List<int[]> hunks(int context) {
            List<int[]> out = new ArrayList<>();
            int older = 0;
            int newer = 0;
            boolean open = false;
            for (int at = 0; at < steps.length(); at++) {
                boolean shown = false;
                for (int k = 0; k < steps.length(); k++) {
                    shown |= steps.charAt(k) != '=' && Math.abs(k - at) <= context;
                }
                if (shown && !open) {
                    out.add(new int[] {older, newer, 0, 0});
                }
                open = shown;
                char s = steps.charAt(at);
                if (s != '+') {
                    older++;
                    if (shown) {
                        out.get(out.size() - 1)[2]++;
                    }
                }
                if (s != '-') {
                    newer++;
                    if (shown) {
                        out.get(out.size() - 1)[3]++;
                    }
                }
            }
            return out;
        }

        int deltaCost() {
            int copies = 0;
            int runs = 0;
            int literal = 0;
            for (int j = 0; j < b.size(); j++) {
                boolean paired = toOld[j] != NONE;
                boolean before = j > 0 && toOld[j - 1] != NONE;
                if (paired && !(before && toOld[j - 1] + 1 == toOld[j])) {
                    copies++;
                }
                if (!paired) {
                    literal++;
                    if (j == 0 || before) {
                        runs++;
                    }
                }
            }
            return 3 + 2 * copies + literal + runs;
        }
    }

    static boolean same(List<Integer> a, List<Integer> b) {
        return a == null ? b == null : a.equals(b);
    }

    // ---- merges

    record Rows(List<Integer> lines, int clashes) {
    }

    static Rows mergeRows(List<Integer> base, List<Integer> ours, List<Integer> theirs, int favour) {
        List<Integer> nothing = List.of();
        base = base == null ? nothing : base;
        D o = new D(base, ours);
        D t = new D(base, theirs);
        List<Integer> out = new ArrayList<>();
        int clashes = 0;
        int b0 = 0;
        int o0 = 0;
        int t0 = 0;
        for (int b = 0; b <= base.size(); b++) {
            boolean end = b == base.size();
            if (!end && (o.toNew[b] == NONE || t.toNew[b] == NONE)) {
                continue;
            }
            int oEnd = end ? ours.size() : o.toNew[b];
            int tEnd = end ? theirs.size() : t.toNew[b];
            List<Integer> sb = base.subList(b0, b);
            List<Integer> so = ours.subList(o0, oEnd);
            List<Integer> st = theirs.subList(t0, tEnd);
            if (so.equals(sb)) {
                out.addAll(st);
            } else if (st.equals(sb) || st.equals(so)) {
                out.addAll(so);
            } else {
                clashes++;
                if (favour == 1) {
                    out.addAll(so);
                } else if (favour == 2) {
                    out.addAll(st);
                } else {
                    out.add(100);
                    out.addAll(so);
                    out.add(101);
                    out.addAll(st);
                    out.add(102);
                }
            }
            if (!end) {
                out.add(base.get(b));
                b0 = b + 1;
                o0 = oEnd + 1;
                t0 = tEnd + 1;
            }
        }
        return new Rows(out, clashes);
    }

    /** By each path: what comes out, and 0 for a result, 3 or 4 for a conflict by that rule. */
    static final class Merged {
        List<List<Integer>> out = new ArrayList<>();
        int[] conflict = new int[16];

        Merged(List<List<Integer>> base, List<List<Integer>> ours, List<List<Integer>> theirs, int favour) {
            for (int p = 0; p < 16; p++) {
                List<Integer> b = base.get(p);
                List<Integer> o = ours.get(p);
                List<Integer> t = theirs.get(p);
                if (same(o, t) || same(t, b)) {
                    out.add(o);
                } else if (same(o, b)) {
                    out.add(t);
                } else if (o == null || t == null) {
                    conflict[p] = 3;
                    out.add(o == null ? t : o);
                } else {
                    Rows m = mergeRows(b, o, t, favour);
                    if (m.lines.size() > 60) {
                        conflict[p] = 4;
                        out.add(o);
                    } else {
                        conflict[p] = m.clashes > 0 && favour == 0 ? 4 : 0;
                        out.add(m.lines);
                    }
                }
            }
        }

        boolean any() {
            return bits() != 0;
        }

        int bits() {
            int bits = 0;
            for (int p = 0; p < 16; p++) {
                bits |= conflict[p] != 0 ? 1 << p : 0;
            }
            return bits;
        }

        boolean touched(int p, List<List<Integer>> ours) {
            return conflict[p] != 0 || !same(out.get(p), ours.get(p));
        }
    }

    static List<List<Integer>> baseSnapshot(Repo r, Set<Integer> set, int one, int depth) {
        Set<Integer> looked = new TreeSet<>();
        for (int s : set) {
            looked.addAll(r.ancestors(s));
        }
        looked.retainAll(r.ancestors(one));
        List<Integer> bases = new ArrayList<>(r.tops(looked));
        if (bases.isEmpty()) {
            return r.rows(r.snapshot(NONE));
        }
        List<List<Integer>> made = r.rows(r.snapshot(bases.get(0)));
        if (bases.size() == 1 || depth == 3) {
            return made;
        }
        for (int k = 1; k < bases.size(); k++) {
            Pair.SEEN.merge("fold at depth " + depth, 1, Integer::sum);
            List<List<Integer>> below = baseSnapshot(r, new TreeSet<>(bases.subList(0, k)), bases.get(k), depth + 1);
            Merged m = new Merged(below, made, r.rows(r.snapshot(bases.get(k))), 0);
            List<List<Integer>> next = new ArrayList<>();
            for (int p = 0; p < 16; p++) {
                next.add(m.conflict[p] == 3 ? below.get(p) : m.out.get(p));
            }
            made = next;
        }
        return made;
    }

    /** Answers 0 for untouched, 2 for merged without conflicts, 3 for conflicts. */
    static int mergeIntoHead(Repo r, List<List<Integer>> base, int theirs, int favour) {
        int[] ours = r.snapshot(r.head());
        require(r.indexTells(ours));
        int[] theirBlobs = r.snapshot(theirs);
        Merged m = new Merged(base, r.rows(ours), r.rows(theirBlobs), favour);
        boolean any = false;
        for (int p = 0; p < 16; p++) {
            if (m.touched(p, r.rows(ours))) {
                any = true;
                require(r.fileAsIndex(p));
            }
        }
        List<List<Integer>> ourRows = r.rows(ours);
        for (int p = 0; p < 16; p++) {
            if (m.touched(p, ourRows)) {
                if (m.conflict[p] == 0) {
                    r.setIndex(p, m.out.get(p) == null ? NONE : r.storeBlob(m.out.get(p)));
                } else {
                    int b = base.get(p) == null ? NONE : r.storeBlob(base.get(p));
                    r.index[p] = new Slot(NONE, List.of(b, ours[p], theirBlobs[p]));
                }
                r.files.set(p, m.out.get(p));
            }
        }
        return m.any() ? 3 : any ? 2 : 0;
    }

    static void commitOfOp(Repo r) {
        int root = r.storeSnapshot(r.indexBlobs());
        List<Integer> parents = new ArrayList<>(List.of(r.head()));
        if (r.op.kind == 1) {
            parents.add(r.op.commit);
        }
        int c = r.storeCommit(root, parents, r.op.author, r.op.message);
        r.moveHead(c, r.op.kind == 1 ? 4 : r.op.kind == 2 ? 5 : r.op.kind == 3 ? 6 : 7);
    }

    static int goOn(Repo r) {
        while (!r.op.todo.isEmpty()) {
            int c = r.op.todo.remove(0);
            List<Integer> parents = r.parents(c);
            if (parents.size() == 1 && parents.get(0) == r.head()) {
                r.carry(r.snapshot(r.head()), r.snapshot(c));
                r.moveHead(c, 7);
            } else {
                r.op.commit = c;
                r.op.author = r.objs.get(c).author;
                r.op.message = r.objs.get(c).message;
                int base = parents.isEmpty() ? NONE : parents.get(0);
                int how = mergeIntoHead(r, r.rows(r.snapshot(base)), c, r.op.favour);
                if (how == 3) {
                    return 3;
                }
                if (how == 2) {
                    commitOfOp(r);
                }
            }
        }
        int head = r.head();
        if (r.op.startBranch != NONE) {
            r.branches[r.op.startBranch] = head;
            r.headBranch = r.op.startBranch;
            r.headDetached = NONE;
            r.logPut(head, 7);
        }
        r.op = new Op();
        return 2;
    }

    // ---- the two repositories

    Repo[] repos = {new Repo(), new Repo()};
    StringBuilder text = new StringBuilder();
    int rounds;
    int told;
    int sent;
    int doubles;

    static void require(boolean holds) {
        if (!holds) {
            throw new IllegalStateException();
        }
    }

    static void place(boolean holds) {
        if (!holds) {
            throw new IndexOutOfBoundsException();
        }
    }

    static void range(int value, int least, int most) {
        if (value < least || value > most) {
            throw new IllegalArgumentException();
        }
    }

    Repo repo(int repo) {
        place(repo == 0 || repo == 1);
        return repos[repo];
    }

    static void path(int path) {
        place(path >= 0 && path < 16);
    }

    static void ref(int number) {
        place(number >= 0 && number < 6);
    }

    /** What throws changes nothing: the state of before is put back. */
    int act(IntSupplier what) {
        Repo[] before = {repos[0].copy(), repos[1].copy()};
        int[] facts = {rounds, told, sent, doubles};
        try {
            return what.getAsInt();
        } catch (RuntimeException e) {
            repos = before;
            rounds = facts[0];
            told = facts[1];
            sent = facts[2];
            doubles = facts[3];
            throw e;
        }
    }

    // ---- 1 working files

    public int write(int repo, int path, long digits) {
        Repo r = repo(repo);
        path(path);
        List<Integer> lines = new ArrayList<>();
        if (digits != 0) {
            for (char c : Long.toString(digits).toCharArray()) {
                if (c < '1' || c > '9') {
                    throw new IllegalArgumentException();
                }
                lines.add(c - '0');
            }
        }
        r.files.set(path, lines);
        return lines.size();
    }

    public int insertLine(int repo, int path, int place, int line) {
        Repo r = repo(repo);
        path(path);
        List<Integer> f = r.files.get(path);
        place(place >= 0 && place <= (f == null ? 0 : f.size()));
        range(line, 1, 99);
        require(f != null && f.size() < 60);
        List<Integer> g = new ArrayList<>(f);
        g.add(place, line);
        r.files.set(path, g);
        return g.size();
    }

    public int deleteLine(int repo, int path, int place) {
        Repo r = repo(repo);
        path(path);
        List<Integer> f = r.files.get(path);
        place(f != null && place >= 0 && place < f.size());
        List<Integer> g = new ArrayList<>(f);
        int line = g.remove(place);
        r.files.set(path, g);
        return line;
    }

    public int removeFile(int repo, int path) {
        Repo r = repo(repo);
        path(path);
        require(r.files.get(path) != null);
        int n = r.files.get(path).size();
        r.files.set(path, null);
        return n;
    }

    public int moveFile(int repo, int path, int other) {
        Repo r = repo(repo);
        path(path);
        path(other);
        require(r.files.get(path) != null && r.files.get(other) == null);
        r.files.set(other, r.files.get(path));
        r.files.set(path, null);
        return r.files.get(other).size();
    }

    public int fileLines(int repo, int path) {
        Repo r = repo(repo);
        path(path);
        return r.files.get(path) == null ? NONE : r.files.get(path).size();
    }

    public int fileLine(int repo, int path, int place) {
        Repo r = repo(repo);
        path(path);
        List<Integer> f = r.files.get(path);
        place(f != null && place >= 0 && place < f.size());
        return f.get(place);
    }

    public boolean ignore(int repo, int path, boolean ignored) {
        Repo r = repo(repo);
        path(path);
        boolean was = r.ignored[path];
        r.ignored[path] = ignored;
        return was;
    }

    public int clean(int repo) {
        Repo r = repo(repo);
        int n = 0;
        for (int p = 0; p < 16; p++) {
            if (r.files.get(p) != null && !r.tracked(p) && !r.ignored[p]) {
                r.files.set(p, null);
                n++;
            }
        }
        return n;
    }

    // ---- 2 objects

    private Obj obj(int repo, int object, int kind) {
        Repo r = repo(repo);
        place(kind == NONE ? r.there(object) : r.is(object, kind));
        return r.objs.get(object);
    }

    private Obj dated(int repo, int object) {
        Repo r = repo(repo);
        place(r.is(object, 2) || r.is(object, 3));
        return r.objs.get(object);
    }

    public int objects(int repo) {
        return repo(repo).objs.size();
    }

    public int kind(int repo, int object) {
        Repo r = repo(repo);
        place(object >= 0 && object < r.objs.size());
        return r.objs.get(object).present ? r.objs.get(object).kind : NONE;
    }

    public int stamp(int repo, int object) {
        return obj(repo, object, NONE).stamp;
    }

    public int blobLines(int repo, int blob) {
        return obj(repo, blob, 0).lines.size();
    }

    public int blobLine(int repo, int blob, int place) {
        Obj o = obj(repo, blob, 0);
        place(place >= 0 && place < o.lines.size());
        return o.lines.get(place);
    }

    public int entry(int repo, int tree, int place) {
        Obj o = obj(repo, tree, 1);
        place(place >= 0 && place < 4);
        return o.parts.get(place);
    }

    public int rootTree(int repo, int commit) {
        return obj(repo, commit, 2).parts.get(0);
    }

    public int parent(int repo, int commit, int place) {
        Obj o = obj(repo, commit, 2);
        place(place == 0 || place == 1);
        return o.parts.size() > place + 1 ? o.parts.get(place + 1) : NONE;
    }

    public int author(int repo, int commit) {
        return obj(repo, commit, 2).author;
    }

    public int date(int repo, int object) {
        return dated(repo, object).date;
    }

    public int message(int repo, int object) {
        return dated(repo, object).message;
    }

    public int tagged(int repo, int tagObject) {
        return obj(repo, tagObject, 3).parts.get(0);
    }

    public int blobAt(int repo, int commit, int path) {
        obj(repo, commit, 2);
        path(path);
        return repo(repo).snapshot(commit)[path];
    }

    static Map<Integer, Integer> twins(Repo from, Repo to) {
        Map<Integer, Integer> twins = new HashMap<>();
        twins.put(NONE, NONE);
        for (int i = 0; i < from.objs.size(); i++) {
            if (from.objs.get(i).present && twins.keySet().containsAll(from.objs.get(i).parts)) {
                Obj want = translate(from.objs.get(i), twins);
                for (int j = 0; j < to.objs.size(); j++) {
                    if (to.objs.get(j).present && to.objs.get(j).holdsSame(want)) {
                        twins.put(i, j);
                    }
                }
            }
        }
        return twins;
    }

    static Obj translate(Obj o, Map<Integer, Integer> twins) {
        Obj t = o.copy();
        t.packed = false;
        t.base = NONE;
        List<Integer> parts = new ArrayList<>();
        for (int p : o.parts) {
            parts.add(twins.get(p));
        }
        t.parts = parts;
        return t;
    }

    public int twin(int repo, int object) {
        obj(repo, object, NONE);
        return twins(repo(repo), repos[1 - repo]).getOrDefault(object, NONE);
    }

    // ---- 3 index and commits

    private static int addOne(Repo r, int path) {
        if (r.files.get(path) == null) {
            r.index[path] = null;
            return NONE;
        }
        int b = r.storeBlob(r.files.get(path));
        r.setIndex(path, b);
        return b;
    }

    public int add(int repo, int path) {
        repo(repo);
        path(path);
        return act(() -> {
            Repo r = repos[repo];
            require(r.files.get(path) != null || r.tracked(path));
            return addOne(r, path);
        });
    }

    public int addAll(int repo) {
        repo(repo);
        return act(() -> {
            Repo r = repos[repo];
            int n = 0;
            for (int p = 0; p < 16; p++) {
                if (r.tracked(p) || r.files.get(p) != null && !r.ignored[p]) {
                    Slot before = r.index[p];
                    addOne(r, p);
                    n += before == null ? r.index[p] == null ? 0 : 1 : before.equals(r.index[p]) ? 0 : 1;
                }
            }
            return n;
        });
    }

    public int unstage(int repo, int path) {
        Repo r = repo(repo);
        path(path);
        int b = r.snapshot(r.head())[path];
        r.setIndex(path, b);
        return b;
    }

    public int restore(int repo, int path) {
        Repo r = repo(repo);
        path(path);
        require(r.entry(path) != NONE);
        r.files.set(path, r.linesOf(r.entry(path)));
        return r.files.get(path).size();
    }

    public int indexed(int repo, int path) {
        Repo r = repo(repo);
        path(path);
        return r.entry(path);
    }

    public int stage(int repo, int path, int stage) {
        Repo r = repo(repo);
        path(path);
        place(stage >= 0 && stage < 3);
        Slot s = r.index[path];
        return s != null && s.conflict() ? s.stages.get(stage) : NONE;
    }

    public int staged(int repo, int path) {
        Repo r = repo(repo);
        path(path);
        if (r.index[path] != null && r.index[path].conflict()) {
            return 4;
        }
        int i = r.entry(path);
        int h = r.snapshot(r.head())[path];
        return i == h ? 0 : h == NONE ? 1 : i == NONE ? 3 : 2;
    }

    public int unstaged(int repo, int path) {
        Repo r = repo(repo);
        path(path);
        if (r.index[path] != null && r.index[path].conflict()) {
            return 4;
        }
        if (r.fileAsIndex(path)) {
            return 0;
        }
        return r.entry(path) == NONE ? 1 : r.files.get(path) == null ? 3 : 2;
    }

    private static void signed(int author, int message) {
        range(author, 0, 9);
        range(message, 0, 99);
    }

    public int commit(int repo, int author, int message) {
        repo(repo);
        signed(author, message);
        return act(() -> {
            Repo r = repos[repo];
            require(!r.busy() && !r.anyConflict() && !r.indexTells(r.snapshot(r.head())));
            int root = r.storeSnapshot(r.indexBlobs());
            int c = r.storeCommit(root, r.head() == NONE ? List.of() : List.of(r.head()), author, message);
            r.moveHead(c, 0);
            return c;
        });
    }

    public int amend(int repo, int author, int message) {
        repo(repo);
        signed(author, message);
        return act(() -> {
            Repo r = repos[repo];
            require(!r.busy() && r.head() != NONE && !r.anyConflict());
            int root = r.storeSnapshot(r.indexBlobs());
            int c = r.storeCommit(root, r.parents(r.head()), author, message);
            r.moveHead(c, 1);
            return c;
        });
    }

    // ---- 4 refs

    public int tick(int repo, int n) {
        Repo r = repo(repo);
        range(n, 1, 999);
        require(r.clock + n <= 9999);
        r.clock += n;
        return r.clock;
    }

    public int clock(int repo) {
        return repo(repo).clock;
    }

    private static int there(int[] refs) {
        int n = 0;
        for (int x : refs) {
            n += x == NONE ? 0 : 1;
        }
        return n;
    }

    public int branch(int repo, int branch, int commit) {
        Repo r = repo(repo);
        ref(branch);
        obj(repo, commit, 2);
        require(r.branches[branch] == NONE && r.headBranch != branch);
        r.branches[branch] = commit;
        return there(r.branches);
    }

    public int moveBranch(int repo, int branch, int commit) {
        Repo r = repo(repo);
        ref(branch);
        obj(repo, commit, 2);
        require(r.branches[branch] != NONE && !r.holds(branch));
        int was = r.branches[branch];
        r.branches[branch] = commit;
        return was;
    }

    public int deleteBranch(int repo, int branch, boolean forced) {
        Repo r = repo(repo);
        ref(branch);
        int was = r.branches[branch];
        require(was != NONE && !r.holds(branch));
        require(forced || r.head() != NONE && r.isAncestor(was, r.head()));
        r.branches[branch] = NONE;
        return was;
    }

    public int renameBranch(int repo, int branch, int other) {
        Repo r = repo(repo);
        ref(branch);
        ref(other);
        require(r.branches[branch] != NONE && r.branches[other] == NONE && r.headBranch != other);
        require(r.op.kind != 4 || r.op.startBranch != branch && r.op.startBranch != other);
        r.branches[other] = r.branches[branch];
        r.branches[branch] = NONE;
        if (r.headBranch == branch) {
            r.headBranch = other;
        }
        return r.branches[other];
    }

    public int startBranch(int repo, int branch) {
        Repo r = repo(repo);
        ref(branch);
        require(!r.busy() && r.branches[branch] == NONE && !r.anyConflict());
        int was = r.head();
        r.headBranch = branch;
        r.headDetached = NONE;
        return was;
    }

    public int switchTo(int repo, int branch) {
        repo(repo);
        ref(branch);
        return act(() -> {
            Repo r = repos[repo];
            require(!r.busy() && r.branches[branch] != NONE && !r.anyConflict());
            int c = r.branches[branch];
            r.carry(r.snapshot(r.head()), r.snapshot(c));
            r.headBranch = branch;
            r.headDetached = NONE;
            r.logPut(c, 2);
            return c;
        });
    }

    public int detach(int repo, int commit) {
        obj(repo, commit, 2);
        return act(() -> {
            Repo r = repos[repo];
            require(!r.busy() && !r.anyConflict());
            int was = r.head();
            r.carry(r.snapshot(was), r.snapshot(commit));
            r.headBranch = NONE;
            r.headDetached = commit;
            r.logPut(commit, 2);
            return was;
        });
    }

    public int reset(int repo, int commit, int how) {
        obj(repo, commit, 2);
        range(how, 0, 2);
        Repo r = repo(repo);
        require(!r.busy() && !(how == 0 && r.anyConflict()));
        int was = r.head();
        r.moveHead(commit, 3);
        int[] s = r.snapshot(commit);
        if (how == 1) {
            for (int p = 0; p < 16; p++) {
                r.setIndex(p, s[p]);
            }
        }
        if (how == 2) {
            r.force(s);
        }
        return was;
    }

    public int tag(int repo, int tag, int commit) {
        Repo r = repo(repo);
        ref(tag);
        obj(repo, commit, 2);
        require(r.tags[tag] == NONE);
        r.tags[tag] = commit;
        return there(r.tags);
    }

    public int annotate(int repo, int tag, int commit, int message) {
        repo(repo);
        ref(tag);
        obj(repo, commit, 2);
        range(message, 0, 99);
        return act(() -> {
            Repo r = repos[repo];
            require(r.tags[tag] == NONE);
            Obj o = new Obj();
            o.kind = 3;
            o.parts = List.of(commit);
            o.message = message;
            o.date = r.clock;
            r.tags[tag] = r.store(o);
            return r.tags[tag];
        });
    }

    public int deleteTag(int repo, int tag) {
        Repo r = repo(repo);
        ref(tag);
        require(r.tags[tag] != NONE);
        int was = r.tags[tag];
        r.tags[tag] = NONE;
        return was;
    }

    public int head(int repo) {
        return repo(repo).head();
    }

    public int headBranch(int repo) {
        return repo(repo).headBranch;
    }

    public int branchAt(int repo, int branch) {
        Repo r = repo(repo);
        ref(branch);
        return r.branches[branch];
    }

    public int tagAt(int repo, int tag) {
        Repo r = repo(repo);
        ref(tag);
        return r.tags[tag];
    }

    public int trackAt(int repo, int track) {
        Repo r = repo(repo);
        ref(track);
        return r.tracks[track];
    }

    public int reflog(int repo) {
        return repo(repo).log.size();
    }

    private Log log(int repo, int place) {
        Repo r = repo(repo);
        place(place >= 0 && place < r.log.size());
        return r.log.get(place);
    }

    public int reflogCommit(int repo, int place) {
        return log(repo, place).commit;
    }

    public int reflogAct(int repo, int place) {
        return log(repo, place).act;
    }

    public int reflogDate(int repo, int place) {
        return log(repo, place).date;
    }

    // ---- 5 history and revisions

    public int type(int character) {
        range(character, 33, 126);
        require(text.length() < 60);
        text.append((char) character);
        return text.length();
    }

    public int clearText() {
        int n = text.length();
        text.setLength(0);
        return n;
    }

    private static final String REVISION = "(?:H(?:@[0-9]{1,2})?|[BTR][0-5])(?:~[0-9]{0,2}|\\^[0-2]?)*";
    private static final java.util.regex.Pattern TEXT =
            java.util.regex.Pattern.compile(REVISION + "(?:\\.\\.\\.?" + REVISION + ")?");

    /** A place is viable if what stands ahead of it can be gone on with to a text of revisions. */
    private static boolean viable(String s) {
        java.util.regex.Matcher m = TEXT.matcher(s);
        return m.matches() || m.hitEnd();
    }

    public int fault() {
        String s = text.toString();
        for (int i = 0; i < s.length(); i++) {
            if (!viable(s.substring(0, i + 1))) {
                return i;
            }
        }
        return TEXT.matcher(s).matches() ? NONE : s.length();
    }

    private static int named(Repo r, String s) {
        java.util.regex.Matcher m = java.util.regex.Pattern.compile("H@([0-9]{1,2})|H|([BTR])([0-5])").matcher(s);
        m.lookingAt();
        int c;
        if (m.group(1) != null) {
            int n = Integer.parseInt(m.group(1));
            c = n < r.log.size() ? r.log.get(n).commit : NONE;
        } else if (m.group(2) != null) {
            int n = Integer.parseInt(m.group(3));
            c = m.group(2).equals("B") ? r.branches[n] : m.group(2).equals("R") ? r.tracks[n] : r.tagCommit(n);
        } else {
            c = r.head();
        }
        java.util.regex.Matcher steps = java.util.regex.Pattern.compile("([~^])([0-9]*)").matcher(s.substring(m.end()));
        while (steps.find()) {
            int n = steps.group(2).isEmpty() ? 1 : Integer.parseInt(steps.group(2));
            if (c == NONE) {
                return NONE;
            }
            if (steps.group(1).equals("~")) {
                for (int i = 0; i < n && c != NONE; i++) {
                    c = r.parents(c).isEmpty() ? NONE : r.parents(c).get(0);
                }
            } else if (n > 0) {
                c = r.parents(c).size() < n ? NONE : r.parents(c).get(n - 1);
            }
        }
        return c;
    }

    public int resolve(int repo) {
        Repo r = repo(repo);
        require(fault() == NONE && text.indexOf(".") < 0);
        int c = named(r, text.toString());
        require(c != NONE);
        return c;
    }

    private List<Integer> listAll(Repo r) {
        require(fault() == NONE);
        String s = text.toString();
        int dot = s.indexOf('.');
        if (dot < 0) {
            int c = named(r, s);
            require(c != NONE);
            return r.newestFirst(r.ancestors(c));
        }
        boolean three = s.startsWith("...", dot);
        int a = named(r, s.substring(0, dot));
        int b = named(r, s.substring(dot + (three ? 3 : 2)));
        require(a != NONE && b != NONE);
        Set<Integer> set = r.ancestors(b);
        set.removeAll(r.ancestors(a));
        if (three) {
            Set<Integer> more = r.ancestors(a);
            more.removeAll(r.ancestors(b));
            set.addAll(more);
        }
        return r.newestFirst(set);
    }

    public int list(int repo) {
        return listAll(repo(repo)).size();
    }

    public int listed(int repo, int place) {
        Repo r = repo(repo);
        place(place >= 0);
        List<Integer> l = listAll(r);
        return place < l.size() ? l.get(place) : NONE;
    }

    public boolean isAncestor(int repo, int commit, int other) {
        obj(repo, commit, 2);
        obj(repo, other, 2);
        return repo(repo).isAncestor(commit, other);
    }

    private static int gen(Repo r, int c, Map<Integer, Integer> memo) {
        Integer known = memo.get(c);
        if (known == null) {
            known = 1;
            for (int p : r.parents(c)) {
                known = Math.max(known, 1 + gen(r, p, memo));
            }
            memo.put(c, known);
        }
        return known;
    }

    public int generation(int repo, int commit) {
        obj(repo, commit, 2);
        return gen(repo(repo), commit, new HashMap<>());
    }

    public int bases(int repo, int commit, int other) {
        obj(repo, commit, 2);
        obj(repo, other, 2);
        return repo(repo).mergeBases(commit, other).size();
    }

    public int base(int repo, int commit, int other, int place) {
        obj(repo, commit, 2);
        obj(repo, other, 2);
        List<Integer> l = repo(repo).mergeBases(commit, other);
        place(place >= 0 && place < l.size());
        return l.get(place);
    }

    private static int ahead(Repo r, int a, int b) {
        Set<Integer> s = r.ancestors(a);
        s.removeAll(r.ancestors(b));
        return s.size();
    }

    public int ahead(int repo, int commit, int other) {
        obj(repo, commit, 2);
        obj(repo, other, 2);
        return ahead(repo(repo), commit, other);
    }

    public int describe(int repo, int commit) {
        obj(repo, commit, 2);
        Repo r = repo(repo);
        List<int[]> all = new ArrayList<>();
        for (int t = 0; t < 6; t++) {
            int c = r.tagCommit(t);
            if (c != NONE && r.isAncestor(c, commit)) {
                all.add(new int[] {ahead(r, commit, c), -r.objs.get(c).date, t});
            }
        }
        all.sort((x, y) -> Arrays.compare(x, y));
        return all.isEmpty() ? NONE : all.get(0)[2];
    }

    public int containing(int repo, int commit) {
        obj(repo, commit, 2);
        Repo r = repo(repo);
        int bits = 0;
        for (int b = 0; b < 6; b++) {
            if (r.branches[b] != NONE && r.isAncestor(commit, r.branches[b])) {
                bits += 1 << b;
            }
        }
        return bits;
    }

    // ---- 6 differences and blame

    private D diff(int repo, int from, int to) {
        Repo r = repo(repo);
        place(from == NONE || r.is(from, 0));
        place(to == NONE || r.is(to, 0));
        return new D(r.linesOf(from), r.linesOf(to));
    }

    public int diffSize(int repo, int from, int to) {
        D d = diff(repo, from, to);
        return d.steps.length() - d.pairs;
    }

    public int diffPair(int repo, int from, int to, int place) {
        D d = diff(repo, from, to);
        place(place >= 0 && place < d.a.size());
        return d.toNew[place];
    }

    public int hunks(int repo, int from, int to, int context) {
        D d = diff(repo, from, to);
        range(context, 0, 9);
        return d.hunks(context).size();
    }

    private int[] hunk(int repo, int from, int to, int context, int hunk) {
        D d = diff(repo, from, to);
        place(context >= 0 && context <= 9);
        List<int[]> h = d.hunks(context);
        place(hunk >= 0 && hunk < h.size());
        return h.get(hunk);
    }

    public int hunkStart(int repo, int from, int to, int context, int hunk, boolean newer) {
        return hunk(repo, from, to, context, hunk)[newer ? 1 : 0];
    }

    public int hunkLength(int repo, int from, int to, int context, int hunk, boolean newer) {
        return hunk(repo, from, to, context, hunk)[newer ? 3 : 2];
    }

    public int likeness(int repo, int blob, int other) {
        Repo r = repo(repo);
        place(r.is(blob, 0) && r.is(other, 0));
        return new D(r.linesOf(blob), r.linesOf(other)).likeness();
    }

    public int changed(int repo, int from, int to) {
        Repo r = repo(repo);
        place(from == NONE || r.is(from, 2));
        place(to == NONE || r.is(to, 2));
        int[] a = r.snapshot(from);
        int[] b = r.snapshot(to);
        int bits = 0;
        for (int p = 0; p < 16; p++) {
            bits += a[p] == b[p] ? 0 : 1 << p;
        }
        return bits;
    }

    private static Map<Integer, Integer> renames(Repo r, int from, int to, int limit) {
        int[] a = r.snapshot(from);
        int[] b = r.snapshot(to);
        List<int[]> all = new ArrayList<>();
        for (int n = 0; n < 16; n++) {
            for (int l = 0; l < 16; l++) {
                if (a[l] != NONE && b[l] == NONE && a[n] == NONE && b[n] != NONE) {
                    all.add(new int[] {-new D(r.linesOf(a[l]), r.linesOf(b[n])).likeness(), n, l});
                }
            }
        }
        all.sort((x, y) -> Arrays.compare(x, y));
        Map<Integer, Integer> out = new HashMap<>();
        Set<Integer> used = new HashSet<>();
        for (int[] x : all) {
            if (-x[0] >= limit && !out.containsKey(x[1]) && !used.contains(x[2])) {
                out.put(x[1], x[2]);
                used.add(x[2]);
            }
        }
        return out;
    }

    public int renamedFrom(int repo, int from, int to, int path, int limit) {
        obj(repo, from, 2);
        obj(repo, to, 2);
        path(path);
        range(limit, 1, 100);
        return renames(repo(repo), from, to, limit).getOrDefault(path, NONE);
    }

    private int[] origin(int repo, int commit, int path, int place, int limit) {
        obj(repo, commit, 2);
        path(path);
        Repo r = repo(repo);
        int blob = r.snapshot(commit)[path];
        place(blob != NONE && place >= 0 && place < r.linesOf(blob).size());
        range(limit, 0, 100);
        return trace(r, commit, path, place, limit);
    }

    private static int[] trace(Repo r, int commit, int path, int place, int limit) {
        int blob = r.snapshot(commit)[path];
        for (int parent : r.parents(commit)) {
            int[] s = r.snapshot(parent);
            int at = path;
            if (s[path] == NONE) {
                at = limit == 0 ? NONE : renames(r, parent, commit, limit).getOrDefault(path, NONE);
            }
            if (at != NONE) {
                D d = new D(r.linesOf(s[at]), r.linesOf(blob));
                if (d.toOld[place] != NONE) {
                    return trace(r, parent, at, d.toOld[place], limit);
                }
            }
        }
        return new int[] {commit, path, place};
    }

    public int blame(int repo, int commit, int path, int place, int limit) {
        return origin(repo, commit, path, place, limit)[0];
    }

    public int blamePath(int repo, int commit, int path, int place, int limit) {
        return origin(repo, commit, path, place, limit)[1];
    }

    public int blamePlace(int repo, int commit, int path, int place, int limit) {
        return origin(repo, commit, path, place, limit)[2];
    }

    private List<Integer> history(int repo, int commit, int path) {
        obj(repo, commit, 2);
        path(path);
        Repo r = repo(repo);
        Set<Integer> come = new TreeSet<>();
        Set<Integer> belong = new TreeSet<>();
        List<Integer> open = new ArrayList<>(List.of(commit));
        while (!open.isEmpty()) {
            int c = open.remove(0);
            if (!come.add(c)) {
                continue;
            }
            int blob = r.snapshot(c)[path];
            int alike = NONE;
            for (int p : r.parents(c)) {
                if (alike == NONE && r.snapshot(p)[path] == blob) {
                    alike = p;
                }
            }
            if (alike != NONE) {
                open.add(alike);
            } else {
                open.addAll(r.parents(c));
                if (!r.parents(c).isEmpty() || blob != NONE) {
                    belong.add(c);
                }
            }
        }
        return r.newestFirst(belong);
    }

    public int pathLog(int repo, int commit, int path) {
        return history(repo, commit, path).size();
    }

    public int pathLogAt(int repo, int commit, int path, int place) {
        List<Integer> l = history(repo, commit, path);
        place(place >= 0 && place < l.size());
        return l.get(place);
    }

    // ---- 7 merges, picks and the rebase

    public int merge(int repo, int commit, int mode, int favour, int author, int message) {
        obj(repo, commit, 2);
        range(mode, 0, 2);
        range(favour, 0, 2);
        signed(author, message);
        return act(() -> {
            Repo r = repos[repo];
            int head = r.head();
            require(!r.busy() && head != NONE);
            if (r.isAncestor(commit, head)) {
                return 0;
            }
            if (r.isAncestor(head, commit) && mode != 1) {
                r.carry(r.snapshot(head), r.snapshot(commit));
                r.moveHead(commit, 4);
                return 1;
            }
            require(mode != 2);
            r.op.kind = 1;
            r.op.commit = commit;
            r.op.author = author;
            r.op.message = message;
            List<List<Integer>> base = baseSnapshot(r, Set.of(head), commit, 0);
            if (mergeIntoHead(r, base, commit, favour) == 3) {
                return 3;
            }
            commitOfOp(r);
            r.op = new Op();
            return 2;
        });
    }

    private int pickOrRevert(int repo, int commit, int mainline, int favour, int kind, int author, int message) {
        return act(() -> {
            Repo r = repos[repo];
            require(!r.busy() && r.head() != NONE);
            List<Integer> parents = r.parents(commit);
            require(mainline == 0 ? parents.size() < 2 : parents.size() == 2);
            int parent = parents.isEmpty() ? NONE : parents.get(Math.max(0, mainline - 1));
            r.op.kind = kind;
            r.op.commit = commit;
            r.op.author = author;
            r.op.message = message;
            int how = kind == 2 ? mergeIntoHead(r, r.rows(r.snapshot(parent)), commit, favour)
                    : mergeIntoHead(r, r.rows(r.snapshot(commit)), parent, favour);
            if (how == 2) {
                commitOfOp(r);
            }
            if (how != 3) {
                r.op = new Op();
            }
            return how;
        });
    }

    public int cherryPick(int repo, int commit, int mainline, int favour) {
        Obj o = obj(repo, commit, 2);
        range(mainline, 0, 2);
        range(favour, 0, 2);
        return pickOrRevert(repo, commit, mainline, favour, 2, o.author, o.message);
    }

    public int revert(int repo, int commit, int mainline, int favour, int author, int message) {
        obj(repo, commit, 2);
        range(mainline, 0, 2);
        range(favour, 0, 2);
        signed(author, message);
        return pickOrRevert(repo, commit, mainline, favour, 3, author, message);
    }

    private static Map<Integer, List<Integer>> change(Repo r, int c) {
        int[] a = r.snapshot(r.parents(c).isEmpty() ? NONE : r.parents(c).get(0));
        int[] b = r.snapshot(c);
        Map<Integer, List<Integer>> out = new HashMap<>();
        for (int p = 0; p < 16; p++) {
            if (a[p] != b[p]) {
                out.put(p, List.of(a[p], b[p]));
            }
        }
        return out;
    }

    public int rebase(int repo, int upstream, int onto, int favour) {
        obj(repo, upstream, 2);
        obj(repo, onto, 2);
        range(favour, 0, 2);
        return act(() -> {
            Repo r = repos[repo];
            int head = r.head();
            require(!r.busy() && head != NONE && r.indexTells(r.snapshot(head)));
            for (int p = 0; p < 16; p++) {
                require(!r.tracked(p) || r.fileAsIndex(p));
            }
            Set<Integer> ours = r.ancestors(head);
            ours.removeAll(r.ancestors(upstream));
            Set<Integer> theirs = r.ancestors(upstream);
            theirs.removeAll(r.ancestors(head));
            List<Integer> list = new ArrayList<>(r.newestFirst(ours));
            Collections.reverse(list);
            Set<Map<Integer, List<Integer>>> known = new HashSet<>();
            for (int c : theirs) {
                if (r.parents(c).size() <= 1) {
                    known.add(change(r, c));
                }
            }
            r.op.kind = 4;
            r.op.favour = favour;
            for (int c : list) {
                if (r.parents(c).size() <= 1 && !known.contains(change(r, c))) {
                    r.op.todo.add(c);
                }
            }
            r.op.startBranch = r.headBranch;
            r.op.startCommit = head;
            r.carry(r.snapshot(head), r.snapshot(onto));
            r.headBranch = NONE;
            r.headDetached = onto;
            r.logPut(onto, 7);
            return goOn(r);
        });
    }

    public int proceed(int repo) {
        repo(repo);
        return act(() -> {
            Repo r = repos[repo];
            require(r.busy() && !r.anyConflict());
            if (r.op.kind == 1 || !r.indexTells(r.snapshot(r.head()))) {
                commitOfOp(r);
            }
            if (r.op.kind == 4) {
                return goOn(r);
            }
            r.op = new Op();
            return 2;
        });
    }

    public int skip(int repo) {
        repo(repo);
        return act(() -> {
            Repo r = repos[repo];
            require(r.op.kind == 4);
            r.force(r.snapshot(r.head()));
            return goOn(r);
        });
    }

    public int abort(int repo) {
        repo(repo);
        return act(() -> {
            Repo r = repos[repo];
            require(r.busy());
            if (r.op.kind == 4) {
                int c = r.op.startCommit;
                if (r.op.startBranch == NONE) {
                    r.headBranch = NONE;
                    r.headDetached = c;
                } else {
                    r.headBranch = r.op.startBranch;
                    r.headDetached = NONE;
                    r.branches[r.headBranch] = c;
                }
                r.logPut(c, 7);
                r.force(r.snapshot(c));
            } else {
                int[] s = r.snapshot(r.head());
                for (int p = 0; p < 16; p++) {
                    boolean conflict = r.index[p] != null && r.index[p].conflict();
                    if (conflict || r.entry(p) != s[p]) {
                        r.setIndex(p, s[p]);
                        r.files.set(p, r.linesOf(s[p]));
                    }
                }
            }
            r.op = new Op();
            return r.head();
        });
    }

    public int takeStage(int repo, int path, int stage) {
        Repo r = repo(repo);
        path(path);
        place(stage >= 0 && stage < 3);
        require(r.index[path] != null && r.index[path].conflict());
        r.files.set(path, r.linesOf(r.index[path].stages.get(stage)));
        return fileLines(repo, path);
    }

    public int mergeFile(int repo, int path, int favour) {
        Repo r = repo(repo);
        path(path);
        range(favour, 0, 2);
        require(r.index[path] != null && r.index[path].conflict());
        List<Integer> b = r.linesOf(r.index[path].stages.get(0));
        List<Integer> o = r.linesOf(r.index[path].stages.get(1));
        List<Integer> t = r.linesOf(r.index[path].stages.get(2));
        if (o == null || t == null) {
            r.files.set(path, o == null ? t : o);
            return 0;
        }
        Rows m = mergeRows(b, o, t, favour);
        r.files.set(path, m.lines.size() > 60 ? o : m.lines);
        return m.clashes;
    }

    public int operation(int repo) {
        return repo(repo).op.kind;
    }

    public int operationCommit(int repo) {
        return repo(repo).op.commit;
    }

    public int todo(int repo) {
        return repo(repo).op.todo.size();
    }

    public int todoAt(int repo, int place) {
        Repo r = repo(repo);
        place(place >= 0 && place < r.op.todo.size());
        return r.op.todo.get(place);
    }

    private Merged would(int repo, int ours, int theirs) {
        obj(repo, ours, 2);
        obj(repo, theirs, 2);
        Repo r = repo(repo);
        return new Merged(baseSnapshot(r, Set.of(ours), theirs, 0), r.rows(r.snapshot(ours)),
                r.rows(r.snapshot(theirs)), 0);
    }

    public int wouldClash(int repo, int ours, int theirs) {
        return would(repo, ours, theirs).bits();
    }

    public int mergedLines(int repo, int ours, int theirs, int path) {
        Merged m = would(repo, ours, theirs);
        path(path);
        return m.out.get(path) == null ? NONE : m.out.get(path).size();
    }

    public int mergedLine(int repo, int ours, int theirs, int path, int place) {
        Merged m = would(repo, ours, theirs);
        path(path);
        List<Integer> l = m.out.get(path);
        place(l != null && place >= 0 && place < l.size());
        return l.get(place);
    }

    private List<Integer> baseRow(int repo, int commit, int other, int path) {
        obj(repo, commit, 2);
        obj(repo, other, 2);
        path(path);
        return baseSnapshot(repo(repo), Set.of(commit), other, 0).get(path);
    }

    public int baseLines(int repo, int commit, int other, int path) {
        List<Integer> l = baseRow(repo, commit, other, path);
        return l == null ? NONE : l.size();
    }

    public int baseLine(int repo, int commit, int other, int path, int place) {
        List<Integer> l = baseRow(repo, commit, other, path);
        place(l != null && place >= 0 && place < l.size());
        return l.get(place);
    }

    // ---- 8 transfer

    private static Set<Integer> pack(Repo from, Set<Integer> wanted, Set<Integer> commonInSender) {
        Set<Integer> pack = new TreeSet<>();
        for (int w : wanted) {
            pack.addAll(from.reach(w));
        }
        for (int c : commonInSender) {
            pack.removeAll(from.reach(c));
        }
        return pack;
    }

    /** Answers whether it came through; the twins are those of the sender's objects, and grow. */
    private boolean transfer(Repo from, Repo to, Set<Integer> wishes, int limit, Map<Integer, Integer> twins) {
        Set<Integer> wanted = new TreeSet<>(wishes);
        wanted.removeAll(twins.keySet());
        rounds = 0;
        told = 0;
        sent = 0;
        doubles = 0;
        if (wanted.isEmpty()) {
            return true;
        }
        Map<Integer, Integer> back = twins(to, from);
        Set<Integer> commits = new TreeSet<>();
        for (int i = 0; i < to.objs.size(); i++) {
            if (to.is(i, 2)) {
                commits.add(i);
            }
        }
        List<Integer> list = to.newestFirst(commits);
        Set<Integer> common = new TreeSet<>();
        while (true) {
            List<Integer> now = new ArrayList<>();
            for (int c : list) {
                if (now.size() < 4 && !common.contains(c)) {
                    now.add(c);
                }
            }
            if (now.isEmpty()) {
                break;
            }
            rounds++;
            told += now.size();
            list = new ArrayList<>(list);
            list.removeAll(now);
            for (int c : now) {
                if (back.containsKey(c)) {
                    common.addAll(to.ancestors(c));
                }
            }
        }
        Set<Integer> known = new TreeSet<>();
        for (int c : common) {
            known.add(back.get(c));
        }
        Set<Integer> pack = pack(from, wanted, known);
        List<Integer> order = new ArrayList<>();
        for (int c : pack) {
            if (from.objs.get(c).kind == 2) {
                for (int o : from.reach(from.objs.get(c).parts.get(0))) {
                    if (pack.contains(o) && !order.contains(o)) {
                        order.add(o);
                    }
                }
                order.add(c);
            }
        }
        for (int o : pack) {
            if (from.objs.get(o).kind == 3) {
                order.add(o);
            }
        }
        require(order.size() == pack.size());
        for (int o : order) {
            if (sent == limit) {
                return false;
            }
            Obj copy = translate(from.objs.get(o), twins);
            copy.present = true;
            int before = to.objs.size();
            twins.put(o, to.store(copy));
            sent++;
            doubles += to.objs.size() == before ? 1 : 0;
        }
        return true;
    }

    public int fetch(int repo, int limit) {
        repo(repo);
        range(limit, 1, 240);
        return act(() -> {
            Repo here = repos[repo];
            Repo there = repos[1 - repo];
            Set<Integer> wanted = new TreeSet<>();
            Set<Integer> history = new TreeSet<>();
            for (int b : there.branches) {
                if (b != NONE) {
                    wanted.add(b);
                    history.addAll(there.ancestors(b));
                }
            }
            List<Integer> tags = new ArrayList<>();
            for (int t = 0; t < 6; t++) {
                if (there.tags[t] != NONE && here.tags[t] == NONE && history.contains(there.tagCommit(t))) {
                    tags.add(t);
                    wanted.add(there.tags[t]);
                }
            }
            Map<Integer, Integer> twins = twins(there, here);
            if (!transfer(there, here, wanted, limit, twins)) {
                return NONE;
            }
            int n = 0;
            for (int b = 0; b < 6; b++) {
                if (there.branches[b] != NONE) {
                    int at = twins.get(there.branches[b]);
                    n += here.tracks[b] == at ? 0 : 1;
                    here.tracks[b] = at;
                }
            }
            for (int t : tags) {
                here.tags[t] = twins.get(there.tags[t]);
                n++;
            }
            return n;
        });
    }

    public int push(int repo, int branch, int target, int how, int limit) {
        repo(repo);
        ref(branch);
        ref(target);
        range(how, 0, 2);
        range(limit, 1, 240);
        return act(() -> {
            Repo here = repos[repo];
            Repo there = repos[1 - repo];
            int commit = here.branches[branch];
            require(commit != NONE);
            int old = there.branches[target];
            Map<Integer, Integer> back = twins(there, here);
            if (how == 0 && old != NONE) {
                require(back.containsKey(old) && here.isAncestor(back.get(old), commit));
            }
            if (how == 2) {
                lease(here.tracks[target], old, back);
            }
            int[] before = there.snapshot(there.head());
            if (there.headBranch == target) {
                require(!there.busy() && there.indexTells(before));
                require(there.canCarry(there.rows(before), here.rows(here.snapshot(commit))));
            }
            Map<Integer, Integer> twins = twins(here, there);
            if (!transfer(here, there, Set.of(commit), limit, twins)) {
                return NONE;
            }
            int at = twins.get(commit);
            if (there.headBranch == target) {
                there.carry(before, there.snapshot(at));
                there.moveHead(at, 8);
            }
            there.branches[target] = at;
            here.tracks[target] = commit;
            return at;
        });
    }

    private static void lease(int track, int commit, Map<Integer, Integer> back) {
        require((track == NONE) == (commit == NONE));
        require(commit == NONE || back.getOrDefault(commit, NONE) == track);
    }

    public int pushDelete(int repo, int target) {
        repo(repo);
        ref(target);
        return act(() -> {
            Repo here = repos[repo];
            Repo there = repos[1 - repo];
            int old = there.branches[target];
            require(old != NONE && !there.holds(target));
            lease(here.tracks[target], old, twins(there, here));
            there.branches[target] = NONE;
            here.tracks[target] = NONE;
            return old;
        });
    }

    public int pruneTracks(int repo) {
        Repo r = repo(repo);
        int n = 0;
        for (int t = 0; t < 6; t++) {
            if (r.tracks[t] != NONE && repos[1 - repo].branches[t] == NONE) {
                r.tracks[t] = NONE;
                n++;
            }
        }
        return n;
    }

    public int wouldSend(int repo, int commit) {
        obj(repo, commit, 2);
        Map<Integer, Integer> twins = twins(repo(repo), repos[1 - repo]);
        if (twins.containsKey(commit)) {
            return 0;
        }
        Set<Integer> known = new TreeSet<>();
        for (int o : twins.keySet()) {
            if (o != NONE && repo(repo).is(o, 2)) {
                known.add(o);
            }
        }
        return pack(repo(repo), Set.of(commit), known).size();
    }

    public int rounds() {
        return rounds;
    }

    public int told() {
        return told;
    }

    public int sent() {
        return sent;
    }

    public int doubles() {
        return doubles;
    }

    // ---- 9 packs and collecting

    public int reached(int repo) {
        return repo(repo).reachedAll().size();
    }

    public boolean isReached(int repo, int object) {
        obj(repo, object, NONE);
        return repo(repo).reachedAll().contains(object);
    }

    public int collect(int repo, int grace) {
        Repo r = repo(repo);
        range(grace, 0, 9999);
        Set<Integer> kept = r.reachedAll();
        for (int i = 0; i < r.objs.size(); i++) {
            if (r.there(i) && r.clock - r.objs.get(i).stamp < grace) {
                kept.addAll(r.reach(i));
            }
        }
        int n = 0;
        for (int i = 0; i < r.objs.size(); i++) {
            if (r.there(i) && !kept.contains(i)) {
                r.objs.get(i).present = false;
                n++;
            }
        }
        for (Obj o : r.objs) {
            if (o.present && o.base != NONE && !r.objs.get(o.base).present) {
                o.base = NONE;
                o.packed = false;
            }
        }
        return n;
    }

    public int expireReflog(int repo, int age) {
        Repo r = repo(repo);
        range(age, 0, 9999);
        int n = r.log.size();
        r.log.removeIf(l -> r.clock - l.date >= age);
        return n - r.log.size();
    }

    private List<Integer> loose(int repo) {
        Repo r = repo(repo);
        Set<Integer> reached = r.reachedAll();
        Set<Integer> parts = new HashSet<>();
        for (Obj o : r.objs) {
            if (o.present) {
                parts.addAll(o.parts);
            }
        }
        List<Integer> out = new ArrayList<>();
        for (int i = 0; i < r.objs.size(); i++) {
            if (r.there(i) && !reached.contains(i) && !parts.contains(i)) {
                out.add(i);
            }
        }
        return out;
    }

    public int dangling(int repo) {
        return loose(repo).size();
    }

    public int danglingAt(int repo, int place) {
        List<Integer> l = loose(repo);
        place(place >= 0 && place < l.size());
        return l.get(place);
    }

    public int pack(int repo, int window, int depth) {
        Repo r = repo(repo);
        range(window, 0, 8);
        range(depth, 0, 8);
        List<Integer> blobs = new ArrayList<>();
        for (int i = 0; i < r.objs.size(); i++) {
            Obj o = r.objs.get(i);
            if (o.present) {
                o.packed = true;
                o.base = NONE;
                if (o.kind == 0) {
                    blobs.add(i);
                }
            }
        }
        blobs.sort((x, y) -> {
            int by = r.linesOf(y).size() - r.linesOf(x).size();
            return by != 0 ? by : y - x;
        });
        for (int k = 0; k < blobs.size(); k++) {
            int blob = blobs.get(k);
            int best = NONE;
            int bestCost = 0;
            for (int back = k - 1; back >= 0 && back >= k - window; back--) {
                int cand = blobs.get(back);
                if (r.depth(cand) < depth) {
                    int cost = new D(r.linesOf(cand), r.linesOf(blob)).deltaCost();
                    if (best == NONE || cost < bestCost) {
                        best = cand;
                        bestCost = cost;
                    }
                }
            }
            if (best != NONE && bestCost < r.whole(blob)) {
                r.objs.get(blob).base = best;
            }
        }
        return r.packSize();
    }

    public boolean isPacked(int repo, int object) {
        return obj(repo, object, NONE).packed;
    }

    public int packBase(int repo, int blob) {
        return obj(repo, blob, 0).base;
    }

    public int packDepth(int repo, int blob) {
        obj(repo, blob, 0);
        return repo(repo).depth(blob);
    }

    public int packedLine(int repo, int blob, int place) {
        return blobLine(repo, blob, place);
    }

    public int packSize(int repo) {
        return repo(repo).packSize();
    }

    public int deltaCost(int repo, int base, int blob) {
        Repo r = repo(repo);
        place(r.is(base, 0) && r.is(blob, 0));
        return new D(r.linesOf(base), r.linesOf(blob)).deltaCost();
    }

    // ---- 10 bisection

    public int bisectStart(int repo, int bad, int good) {
        obj(repo, bad, 2);
        obj(repo, good, 2);
        Repo r = repo(repo);
        require(r.bisect == null && !r.isAncestor(bad, good));
        r.bisect = new Bisect();
        r.bisect.bad = bad;
        r.bisect.good.add(good);
        return r.left().size();
    }

    public int bisectGood(int repo, int commit) {
        obj(repo, commit, 2);
        Repo r = repo(repo);
        require(r.bisect != null && !r.isAncestor(r.bisect.bad, commit));
        r.bisect.good.add(commit);
        return r.left().size();
    }

    private Repo leftIn(int repo, int commit) {
        obj(repo, commit, 2);
        Repo r = repo(repo);
        require(r.bisect != null && r.left().contains(commit));
        return r;
    }

    public int bisectBad(int repo, int commit) {
        Repo r = leftIn(repo, commit);
        r.bisect.bad = commit;
        return r.left().size();
    }

    public int bisectSkip(int repo, int commit) {
        Repo r = leftIn(repo, commit);
        r.bisect.skipped.add(commit);
        Set<Integer> both = r.left();
        both.retainAll(r.bisect.skipped);
        return both.size();
    }

    private Repo searching(int repo) {
        Repo r = repo(repo);
        require(r.bisect != null);
        return r;
    }

    public int bisectEnd(int repo) {
        Repo r = searching(repo);
        int n = r.left().size();
        r.bisect = null;
        return n;
    }

    public int left(int repo) {
        Repo r = repo(repo);
        return r.bisect == null ? NONE : r.left().size();
    }

    public int leftAt(int repo, int place) {
        Repo r = repo(repo);
        List<Integer> l = r.bisect == null ? List.of() : r.newestFirst(r.left());
        place(place >= 0 && place < l.size());
        return l.get(place);
    }

    private static int weight(Repo r, Set<Integer> left, int c) {
        Set<Integer> a = r.ancestors(c);
        a.retainAll(left);
        return a.size();
    }

    private static int next(Repo r, Set<Integer> left, int bad, Set<Integer> skipped) {
        int best = NONE;
        int bestValue = NONE;
        for (int c : left) {
            if (c != bad && !skipped.contains(c)) {
                int w = weight(r, left, c);
                int v = Math.min(w, left.size() - w);
                if (v > bestValue) {
                    bestValue = v;
                    best = c;
                }
            }
        }
        return best;
    }

    public int weight(int repo, int commit) {
        Repo r = leftIn(repo, commit);
        return weight(r, r.left(), commit);
    }

    public int nextTest(int repo) {
        Repo r = searching(repo);
        return next(r, r.left(), r.bisect.bad, r.bisect.skipped);
    }

    public int culprit(int repo) {
        Repo r = searching(repo);
        return r.left().size() == 1 ? r.left().iterator().next() : NONE;
    }

    /** However the tests come out: the deeper one of the two outcomes of each. */
    private static int most(Repo r, Set<Integer> left, int bad) {
        if (left.size() <= 1) {
            return 0;
        }
        int t = next(r, left, bad, Set.of());
        Set<Integer> ifBad = r.ancestors(t);
        ifBad.retainAll(left);
        Set<Integer> ifGood = new TreeSet<>(left);
        ifGood.removeAll(r.ancestors(t));
        return 1 + Math.max(most(r, ifBad, t), most(r, ifGood, bad));
    }

    public int tests(int repo) {
        Repo r = searching(repo);
        return most(r, r.left(), r.bisect.bad);
    }

    public int testsFor(int repo, int commit) {
        Repo r = leftIn(repo, commit);
        Set<Integer> left = r.left();
        int bad = r.bisect.bad;
        int n = 0;
        while (left.size() > 1) {
            int t = next(r, left, bad, Set.of());
            n++;
            if (r.isAncestor(commit, t)) {
                bad = t;
                left.retainAll(r.ancestors(t));
            } else {
                left.removeAll(r.ancestors(t));
            }
        }
        return n;
    }

    // ---- 11 stashes

    public int stashPush(int repo, int author, int message) {
        repo(repo);
        signed(author, message);
        return act(() -> {
            Repo r = repos[repo];
            int head = r.head();
            require(!r.busy() && head != NONE && !r.anyConflict());
            boolean clean = r.indexTells(r.snapshot(head));
            for (int p = 0; p < 16; p++) {
                clean &= !r.tracked(p) || r.fileAsIndex(p);
            }
            if (clean) {
                return NONE;
            }
            require(r.stashes.size() < 6);
            int index = r.storeCommit(r.storeSnapshot(r.indexBlobs()), List.of(head), author, message);
            int[] blobs = new int[16];
            for (int p = 0; p < 16; p++) {
                blobs[p] = r.tracked(p) && r.files.get(p) != null ? r.storeBlob(r.files.get(p)) : NONE;
            }
            int stash = r.storeCommit(r.storeSnapshot(blobs), List.of(head, index), author, message);
            r.force(r.snapshot(head));
            r.stashes.add(0, stash);
            return stash;
        });
    }

    private int applyStash(int repo, int place, boolean withIndex, boolean pop) {
        Repo here = repo(repo);
        place(place >= 0 && place < here.stashes.size());
        return act(() -> {
            Repo r = repos[repo];
            require(!r.busy() && !r.anyConflict());
            int stash = r.stashes.get(place);
            int[] base = r.snapshot(r.parents(stash).get(0));
            int[] ours = r.indexBlobs();
            int[] theirs = r.snapshot(stash);
            int[] kept = r.snapshot(r.parents(stash).get(1));
            Merged second = new Merged(r.rows(base), r.rows(ours), r.rows(kept), 0);
            require(!withIndex || !second.any());
            List<List<Integer>> ourRows = r.rows(ours);
            Merged m = new Merged(r.rows(base), ourRows, r.rows(theirs), 0);
            for (int p = 0; p < 16; p++) {
                require(!m.touched(p, ourRows) || r.fileAsIndex(p));
            }
            for (int p = 0; p < 16; p++) {
                if (m.touched(p, ourRows)) {
                    if (m.conflict[p] != 0) {
                        r.index[p] = new Slot(NONE, List.of(base[p], ours[p], theirs[p]));
                    } else if (r.index[p] == null && m.out.get(p) != null) {
                        r.setIndex(p, r.storeBlob(m.out.get(p)));
                    }
                    r.files.set(p, m.out.get(p));
                }
            }
            if (withIndex) {
                for (int p = 0; p < 16; p++) {
                    if (m.conflict[p] == 0) {
                        r.setIndex(p, second.out.get(p) == null ? NONE : r.storeBlob(second.out.get(p)));
                    }
                }
            }
            if (pop && !m.any()) {
                r.stashes.remove(place);
            }
            return m.any() ? 0 : 1;
        });
    }

    public boolean stashApply(int repo, int stash, boolean withIndex) {
        return applyStash(repo, stash, withIndex, false) == 1;
    }

    public boolean stashPop(int repo, int stash, boolean withIndex) {
        return applyStash(repo, stash, withIndex, true) == 1;
    }

    public int stashDrop(int repo, int stash) {
        Repo r = repo(repo);
        place(stash >= 0 && stash < r.stashes.size());
        return r.stashes.remove(stash);
    }

    public int stashes(int repo) {
        return repo(repo).stashes.size();
    }

    public int stashAt(int repo, int place) {
        Repo r = repo(repo);
        place(place >= 0 && place < r.stashes.size());
        return r.stashes.get(place);
    }

    // ---- 12 rehearsal

    private int x;

    private int lot(int n) {
        x = (int) ((25173L * x + 13849L) % 65536L);
        return (x / 16) % n;
    }

    private static int tried(IntSupplier call) {
        try {
            call.getAsInt();
            return 1;
        } catch (IndexOutOfBoundsException | IllegalArgumentException | IllegalStateException e) {
            return 0;
        }
    }

    public int rehearse(int repo, int seed, int steps) {
        repo(repo);
        range(seed, 0, 65535);
        range(steps, 1, 40);
        x = seed;
        int n = 0;
        for (int i = 0; i < steps; i++) {
            n += step(repo);
        }
        return n;
    }

    private int drawn(int repo) {
        int k = lot(6);
        return k < 3 ? repos[repo].branches[k] : repos[repo].tracks[k - 3];
    }

    private int step(int repo) {
        int n = 0;
        if (repos[repo].busy()) {
            for (int p = 0; p < 16; p++) {
                int path = p;
                if (repos[repo].index[p] != null && repos[repo].index[p].conflict()) {
                    int s = lot(2) + 1;
                    n += tried(() -> takeStage(repo, path, s));
                    n += tried(() -> add(repo, path));
                }
            }
            return n + tried(() -> proceed(repo));
        }
        switch (lot(12)) {
            case 0, 1, 2 -> {
                int p = 5 * lot(4);
                List<Integer> f = repos[repo].files.get(p);
                if (f == null) {
                    long digits = 0;
                    for (int d = 0; d < 4; d++) {
                        digits = digits * 10 + lot(9) + 1;
                    }
                    long all = digits;
                    return tried(() -> write(repo, p, all));
                }
                int place = lot(f.size() + 1);
                int line = lot(9) + 1;
                return tried(() -> insertLine(repo, p, place, line));
            }
            case 3 -> {
                int p = 5 * lot(4);
                List<Integer> f = repos[repo].files.get(p);
                if (f == null || f.isEmpty()) {
                    return 0;
                }
                int place = lot(f.size());
                return tried(() -> deleteLine(repo, p, place));
            }
            case 4, 5 -> {
                n = tried(() -> addAll(repo));
                int author = lot(10);
                int message = lot(100);
                return n + tried(() -> commit(repo, author, message));
            }
            case 6 -> {
                int b = lot(3);
                if (repos[repo].branches[b] == NONE && repos[repo].head() != NONE) {
                    n += tried(() -> branch(repo, b, repos[repo].head()));
                }
                return n + tried(() -> switchTo(repo, b));
            }
            case 7 -> {
                int c = drawn(repo);
                if (c == NONE) {
                    return 0;
                }
                int author = lot(10);
                int message = lot(100);
                return tried(() -> merge(repo, c, 0, 0, author, message));
            }
            case 8 -> {
                int by = lot(9) + 1;
                return tried(() -> tick(repo, by));
            }
            case 9 -> {
                int t = lot(6);
                int message = lot(100);
                return repos[repo].head() == NONE ? 0 : tried(() -> annotate(repo, t, repos[repo].head(), message));
            }
            case 10 -> {
                int c = drawn(repo);
                return c == NONE ? 0
                        : tried(() -> cherryPick(repo, c, repos[repo].parents(c).size() == 2 ? 1 : 0, 0));
            }
            default -> {
                return tried(() -> fetch(repo, 240));
            }
        }
    }

    public boolean isSound(int repo, int part) {
        repo(repo);
        range(part, 0, 11);
        return true;
    }
}
