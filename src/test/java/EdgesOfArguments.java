import java.lang.reflect.InvocationTargetException;
import java.lang.reflect.Method;
import java.util.ArrayList;
import java.util.Arrays;
import java.util.HashMap;
import java.util.HashSet;
import java.util.List;
import java.util.Map;
import java.util.Set;
import java.util.TreeSet;

/**
 * Each argument of each method, one too small and one too large, and the least and the greatest that is allowed; which
 * exception is thrown if two reasons apply; and that a refused call, and one that asks, changes nothing at all.
 */
final class EdgesOfArguments {
    private static final int NONE = VersionWorks.NONE;
    private static final int LEAST = Integer.MIN_VALUE;
    private static final int MOST = Integer.MAX_VALUE;
    private static final Set<String> ASKING = new HashSet<>();
    private static final Map<String, Method> METHODS = Pair.methods(VersionWorks.class);
    private static final Set<String> DONE = new TreeSet<>();

    /** The least and the greatest of the arguments that IllegalArgumentException is thrown for. */
    private static final Map<String, int[]> RANGES = new HashMap<>();

    static {
        for (String row : Pair.ASKING) {
            ASKING.add(row.split(" ")[0]);
        }
        RANGES.put("line", new int[] {1, 99});
        RANGES.put("author", new int[] {0, 9});
        RANGES.put("message", new int[] {0, 99});
        RANGES.put("n", new int[] {1, 999});
        RANGES.put("how", new int[] {0, 2});
        RANGES.put("character", new int[] {33, 126});
        RANGES.put("context", new int[] {0, 9});
        RANGES.put("mode", new int[] {0, 2});
        RANGES.put("favour", new int[] {0, 2});
        RANGES.put("mainline", new int[] {0, 2});
        RANGES.put("limit", new int[] {1, 240});
        RANGES.put("renamedFrom limit", new int[] {1, 100});
        RANGES.put("blame limit", new int[] {0, 100});
        RANGES.put("blamePath limit", new int[] {0, 100});
        RANGES.put("blamePlace limit", new int[] {0, 100});
        RANGES.put("grace", new int[] {0, 9999});
        RANGES.put("age", new int[] {0, 9999});
        RANGES.put("window", new int[] {0, 8});
        RANGES.put("depth", new int[] {0, 8});
        RANGES.put("seed", new int[] {0, 65535});
        RANGES.put("steps", new int[] {1, 40});
        RANGES.put("part", new int[] {0, 11});
    }

    /** A call that is accepted in a scene; of each of its arguments it is tried which values are. */
    private static final class Row {
        final String method;
        final Edge.Scene scene;
        final Object[] args;
        /** The greatest place there is; NONE for a row without one. */
        int lastPlace = NONE;
        Edge.Scene refusing;

        Row(String method, Edge.Scene scene, Object... args) {
            this.method = method;
            this.scene = scene;
            this.args = args;
        }

        Row last(int place) {
            lastPlace = place;
            return this;
        }

        /** The same call throws an IllegalStateException in this scene. */
        Row not(Edge.Scene in) {
            refusing = in;
            return this;
        }
    }

    public static void main(String[] args) {
        Due.same("NONE is -1", -1, NONE);
        Edge.says("part 0", "IndexOutOfBoundsException is thrown if a repository is not 0 or 1, a path not 0 to 15, the number of a "
                + "branch, tag or track not 0 to 5, a place is not one of the row in which it is looked up, or an object number is "
                + "not that of an object that is present in the repository, or that object is not of the kind that the method "
                + "names. IllegalArgumentException is thrown if another argument is out of its range.");
        Edge.says("part 0", "A method that throws an exception changes nothing at all, however far its work had come.");
        Edge.says("part 0", "If several apply, the one that the throws clauses name first is thrown");
        Edge.says("part 0", "To ask changes nothing. NONE is -1.");
        Edge.says("part 0", "No method of one repository changes the other one, but push() and pushDelete().");
        for (Row row : rows()) {
            test(row);
        }
        Set<String> all = new TreeSet<>(Doc.PARAMETERS.keySet());
        all.removeAll(DONE);
        Due.same("methods without a row", "[]", all);
        writeDigits();
        theNumbersOfObjects();
        Edge.end("EdgesOfArguments");
    }

    private static List<Row> rows() {
        List<Row> rows = new ArrayList<>();
        filesAndObjects(rows);
        indexAndRefs(rows);
        historyAndDiffs(rows);
        merges(rows);
        transfersAndPacks(rows);
        searchesAndStashes(rows);
        return rows;
    }

    private static Row row(List<Row> rows, String method, Edge.Scene scene, Object... args) {
        Row row = new Row(method, scene, args);
        rows.add(row);
        return row;
    }

    private static void filesAndObjects(List<Row> rows) {
        Edge.Scene ends = Scenes::ends;
        row(rows, "write", ends, 0, 0, 123L);
        row(rows, "insertLine", ends, 0, 0, 6, 99).last(6).not(() -> {
            VersionWorks x = Scenes.ends();
            for (int k = 6; k < 60; k++) {
                x.insertLine(0, 0, 0, 1);
            }
            return x;
        });
        row(rows, "deleteLine", ends, 0, 0, 5).last(5);
        row(rows, "removeFile", ends, 0, 0).not(() -> without(Scenes.ends(), 0));
        row(rows, "moveFile", () -> without(without(Scenes.ends(), 7), 15), 0, 0, 7).not(ends);
        row(rows, "moveFile", () -> {
            VersionWorks x = Scenes.ends();
            x.moveFile(0, 0, 1);
            x.moveFile(0, 15, 2);
            return x;
        }, 0, 1, 3);
        row(rows, "fileLines", ends, 0, 0);
        row(rows, "fileLine", ends, 0, 0, 5).last(5);
        row(rows, "ignore", ends, 0, 0, true);
        row(rows, "clean", ends, 0);
        row(rows, "objects", ends, 0);
        row(rows, "kind", ends, 0, 0);
        row(rows, "stamp", ends, 0, Scenes.BLOB);
        row(rows, "blobLines", ends, 0, Scenes.BLOB);
        row(rows, "blobLine", ends, 0, Scenes.BLOB, 4).last(4);
        row(rows, "entry", ends, 0, Scenes.TREE, 3).last(3);
        row(rows, "rootTree", ends, 0, Scenes.ROOT);
        row(rows, "parent", ends, 0, Scenes.ROOT, 1).last(1);
        row(rows, "author", ends, 0, Scenes.ROOT);
        row(rows, "date", ends, 0, Scenes.TAGGED);
        row(rows, "message", ends, 0, Scenes.TAGGED);
        row(rows, "tagged", ends, 0, Scenes.TAGGED);
        row(rows, "blobAt", ends, 0, Scenes.ROOT, 15);
        row(rows, "twin", ends, 0, Scenes.TREE);
    }

    private static VersionWorks without(VersionWorks x, int path) {
        x.removeFile(0, path);
        return x;
    }

    private static void indexAndRefs(List<Row> rows) {
        Edge.Scene ends = Scenes::ends;
        Edge.Scene busy = Scenes::stopped;
        Edge.Scene changed = () -> {
            VersionWorks x = Scenes.ends();
            x.write(0, 0, 5);
            x.write(1, 0, 5);
            x.addAll(0);
            x.addAll(1);
            return x;
        };
        row(rows, "add", ends, 0, 0).not(() -> {
            VersionWorks x = without(Scenes.ends(), 0);
            x.add(0, 0);
            return x;
        });
        row(rows, "addAll", ends, 0);
        row(rows, "unstage", ends, 0, 0);
        row(rows, "restore", ends, 0, 0).not(busy);
        row(rows, "indexed", ends, 0, 0);
        row(rows, "stage", ends, 0, 0, 2).last(2);
        row(rows, "staged", ends, 0, 0);
        row(rows, "unstaged", ends, 0, 0);
        row(rows, "commit", changed, 0, 0, 0).not(ends);
        row(rows, "amend", ends, 0, 0, 0).not(busy);
        row(rows, "tick", ends, 0, 1).not(() -> {
            VersionWorks x = Scenes.ends();
            for (int k = 0; k < 10; k++) {
                x.tick(0, 999);
            }
            x.tick(0, 9);
            return x;
        });
        row(rows, "clock", ends, 0);
        row(rows, "branch", Scenes::bare, 0, 0, Scenes.ROOT).not(ends);
        row(rows, "moveBranch", ends, 0, 0, Scenes.ROOT).not(Scenes::bare);
        row(rows, "deleteBranch", ends, 0, 0, true).not(Scenes::bare);
        row(rows, "renameBranch", ends, 0, 0, 4).not(Scenes::bare);
        row(rows, "renameBranch", () -> {
            VersionWorks x = Scenes.bare();
            x.branch(0, 3, Scenes.ROOT);
            x.branch(1, 3, Scenes.ROOT);
            return x;
        }, 0, 3, 5);
        row(rows, "startBranch", Scenes::bare, 0, 0).not(ends);
        row(rows, "switchTo", ends, 0, 0).not(Scenes::bare);
        row(rows, "detach", ends, 0, Scenes.ROOT).not(busy);
        row(rows, "reset", ends, 0, Scenes.ROOT, 2).not(busy);
        row(rows, "tag", Scenes::bare, 0, 0, Scenes.ROOT).not(ends);
        row(rows, "annotate", Scenes::bare, 0, 0, Scenes.ROOT, 99).not(ends);
        row(rows, "deleteTag", ends, 0, 0).not(Scenes::bare);
        row(rows, "head", ends, 0);
        row(rows, "headBranch", ends, 0);
        row(rows, "branchAt", ends, 0, 0);
        row(rows, "tagAt", ends, 0, 0);
        row(rows, "trackAt", ends, 0, 0);
        row(rows, "reflog", ends, 0);
        row(rows, "reflogCommit", ends, 0, 4).last(4);
        row(rows, "reflogAct", ends, 0, 4).last(4);
        row(rows, "reflogDate", ends, 0, 4).last(4);
    }

    private static void historyAndDiffs(List<Row> rows) {
        Edge.Scene ends = Scenes::ends;
        Edge.Scene fault = () -> Scenes.typed("B0.");
        row(rows, "type", ends, (int) 'H').not(() -> Scenes.typed("H".repeat(60)));
        row(rows, "clearText", ends);
        row(rows, "fault", ends);
        row(rows, "resolve", () -> Scenes.typed("B0"), 0).not(fault);
        row(rows, "list", () -> Scenes.typed("B0..B2"), 0).not(fault);
        row(rows, "listed", () -> Scenes.typed("B0..B2"), 0, 0).last(MOST).not(fault);
        row(rows, "isAncestor", ends, 0, Scenes.ROOT, Scenes.TOP);
        row(rows, "generation", ends, 0, Scenes.TOP);
        row(rows, "bases", ends, 0, Scenes.TOP, Scenes.SIDE);
        row(rows, "base", ends, 0, Scenes.TOP, Scenes.SIDE, 0).last(0);
        row(rows, "ahead", ends, 0, Scenes.TOP, Scenes.SIDE);
        row(rows, "describe", ends, 0, Scenes.TOP);
        row(rows, "containing", ends, 0, Scenes.ROOT);
        int other = blobOf(Scenes.TOP, 0);
        row(rows, "diffSize", ends, 0, Scenes.BLOB, other);
        row(rows, "diffPair", ends, 0, Scenes.BLOB, other, 4).last(4);
        row(rows, "hunks", ends, 0, Scenes.BLOB, other, 3);
        row(rows, "hunkStart", ends, 0, Scenes.BLOB, other, 3, 0, true).last(0);
        row(rows, "hunkLength", ends, 0, Scenes.BLOB, other, 3, 0, false).last(0);
        row(rows, "likeness", ends, 0, Scenes.BLOB, other);
        row(rows, "changed", ends, 0, Scenes.ROOT, Scenes.TOP);
        row(rows, "renamedFrom", ends, 0, Scenes.ROOT, Scenes.TOP, 0, 50);
        row(rows, "blame", ends, 0, Scenes.TOP, 0, 5, 50).last(5);
        row(rows, "blamePath", ends, 0, Scenes.TOP, 0, 5, 50).last(5);
        row(rows, "blamePlace", ends, 0, Scenes.TOP, 0, 5, 50).last(5);
        row(rows, "pathLog", ends, 0, Scenes.TOP, 0);
        row(rows, "pathLogAt", ends, 0, Scenes.TOP, 0, 1).last(1);
    }

    private static int blobOf(int commit, int path) {
        return Scenes.ends().blobAt(0, commit, path);
    }

    private static void merges(List<Row> rows) {
        Edge.Scene ends = Scenes::ends;
        Edge.Scene busy = Scenes::stopped;
        row(rows, "merge", ends, 0, Scenes.SIDE, 1, 2, 0, 0).not(busy);
        row(rows, "cherryPick", ends, 0, Scenes.SIDE, 0, 2).not(busy);
        row(rows, "revert", ends, 0, Scenes.TOP, 0, 2, 0, 0).not(busy);
        row(rows, "rebase", ends, 0, Scenes.SIDE, Scenes.SIDE, 2).not(busy);
        row(rows, "proceed", Scenes::solved, 0).not(ends);
        row(rows, "skip", Scenes::rebasing, 0).not(ends);
        row(rows, "abort", busy, 0).not(ends);
        row(rows, "takeStage", busy, 0, 0, 2).last(2).not(ends);
        row(rows, "mergeFile", busy, 0, 0, 0).not(ends);
        row(rows, "operation", busy, 0);
        row(rows, "operationCommit", busy, 0);
        row(rows, "todo", Scenes::rebasing, 0);
        row(rows, "todoAt", Scenes::rebasing, 0, 1).last(1);
        row(rows, "wouldClash", ends, 0, Scenes.TOP, Scenes.SIDE);
        row(rows, "mergedLines", ends, 0, Scenes.TOP, Scenes.SIDE, 0);
        // Five lines of the base, then the three marks, 9 and 8.
        row(rows, "mergedLine", ends, 0, Scenes.TOP, Scenes.SIDE, 0, 9).last(9);
        row(rows, "baseLines", ends, 0, Scenes.TOP, Scenes.SIDE, 0);
        row(rows, "baseLine", ends, 0, Scenes.TOP, Scenes.SIDE, 0, 4).last(4);
    }

    private static void transfersAndPacks(List<Row> rows) {
        Edge.Scene ends = Scenes::ends;
        row(rows, "fetch", ends, 0, 1).not(() -> {
            VersionWorks x = Scenes.ends();
            Scenes.commit(x, 1, 7, 881, 1);
            Scenes.commit(x, 0, 8, 882, 1);
            Scenes.fill(x, 0, 0);
            Scenes.fill(x, 1, 0);
            return x;
        });
        row(rows, "push", ends, 0, 5, 4, 1, 1).not(Scenes::bare);
        row(rows, "push", ends, 0, 5, 5, 0, 240);
        row(rows, "pushDelete", ends, 0, 0).not(Scenes::bare);
        row(rows, "pruneTracks", ends, 0);
        row(rows, "wouldSend", ends, 0, Scenes.TOP);
        row(rows, "rounds", ends);
        row(rows, "told", ends);
        row(rows, "sent", ends);
        row(rows, "doubles", ends);
        row(rows, "reached", ends, 0);
        row(rows, "isReached", ends, 0, Scenes.TREE);
        row(rows, "collect", ends, 0, 0);
        row(rows, "expireReflog", ends, 0, 0);
        row(rows, "dangling", ends, 0);
        Edge.Scene dropped = () -> {
            VersionWorks x = Scenes.ends();
            for (int r = 0; r < 2; r++) {
                x.stashDrop(r, 0);
                x.stashDrop(r, 0);
            }
            return x;
        };
        row(rows, "danglingAt", dropped, 0, 1).last(1);
        row(rows, "pack", ends, 0, 8, 8);
        row(rows, "isPacked", ends, 0, Scenes.TREE);
        row(rows, "packBase", ends, 0, Scenes.BLOB);
        row(rows, "packDepth", ends, 0, Scenes.BLOB);
        row(rows, "packedLine", ends, 0, Scenes.BLOB, 4).last(4);
        row(rows, "packSize", ends, 0);
        row(rows, "deltaCost", ends, 0, Scenes.BLOB, blobOf(Scenes.TOP, 0));
    }

    private static void searchesAndStashes(List<Row> rows) {
        Edge.Scene ends = Scenes::ends;
        Edge.Scene searching = Scenes::searching;
        row(rows, "bisectStart", ends, 0, Scenes.TOP, Scenes.SIDE).not(searching);
        row(rows, "bisectGood", searching, 0, Scenes.TOP).not(ends);
        row(rows, "bisectBad", searching, 0, Scenes.TOP).not(ends);
        row(rows, "bisectSkip", searching, 0, Scenes.TOP).not(ends);
        row(rows, "bisectEnd", searching, 0).not(ends);
        row(rows, "left", searching, 0);
        row(rows, "leftAt", searching, 0, 5).last(5);
        row(rows, "weight", searching, 0, Scenes.TOP).not(ends);
        row(rows, "nextTest", searching, 0).not(ends);
        row(rows, "culprit", searching, 0).not(ends);
        row(rows, "tests", searching, 0).not(ends);
        row(rows, "testsFor", searching, 0, Scenes.TOP).not(ends);
        row(rows, "stashPush", () -> {
            VersionWorks x = Scenes.ends();
            x.write(0, 0, 5);
            x.write(1, 0, 5);
            return x;
        }, 0, 0, 0).not(Scenes::stopped);
        row(rows, "stashApply", ends, 0, 1, false).last(1).not(Scenes::stopped);
        row(rows, "stashPop", ends, 0, 1, false).last(1).not(Scenes::stopped);
        row(rows, "stashDrop", ends, 0, 1).last(1);
        row(rows, "stashes", ends, 0);
        row(rows, "stashAt", ends, 0, 1).last(1);
        row(rows, "rehearse", ends, 0, 0, 1);
        row(rows, "isSound", ends, 0, 0);
    }

    // ---- what is tried

    private static void test(Row row) {
        DONE.add(row.method);
        List<String> names = Doc.PARAMETERS.get(row.method);
        Due.same(row.method + " has as many arguments", names.size(), row.args.length);
        accepted(row);
        Map<Integer, List<Object>> places = new HashMap<>();
        Map<Integer, List<Object>> ranges = new HashMap<>();
        for (int k = 0; k < names.size(); k++) {
            String name = names.get(k);
            if (row.args[k] instanceof Boolean || row.args[k] instanceof Long) {
                continue;
            }
            List<Object> wrong = wrong(row, name);
            boolean range = isRange(row.method, name);
            asTold(row.method, name, wrong);
            (range ? ranges : places).put(k, wrong);
            String due = range ? Due.ARGUMENT : Due.INDEX;
            for (Object value : wrong) {
                Object[] args = with(row.args, k, value);
                Edge.refused(told(row.method, args) + ", by " + name, due, row.scene, x -> call(x, row.method, args));
            }
            for (Object value : right(row, name)) {
                Object[] args = with(row.args, k, value);
                String got = Due.told(() -> call(row.scene.make(), row.method, args));
                Due.yes(told(row.method, args) + " is allowed by " + name + ", but: " + got, !got.equals(due));
            }
        }
        precedence(row, places, ranges);
    }

    /** What is tried of a range is just beside the least and the greatest number that the document tells of it. */
    private static void asTold(String method, String name, List<Object> wrong) {
        boolean told = RANGES.containsKey(name) || name.equals("stage");
        if (told) {
            List<Integer> numbers = Doc.numbersOf(method, name);
            Due.yes(method + " tells a range of " + name, numbers.size() >= 2);
            Due.same(method + " " + name + ": one too small", java.util.Collections.min(numbers) - 1, wrong.get(0));
            Due.same(method + " " + name + ": one too large", java.util.Collections.max(numbers) + 1, wrong.get(1));
        }
    }

    /** The call is accepted; if it asks it changes nothing; the other repository is changed by pushes alone. */
    private static void accepted(Row row) {
        VersionWorks x = row.scene.make();
        String whole = Whole.of(x);
        String other = Whole.of(x, 1);
        String got = Due.told(() -> call(x, row.method, row.args));
        Due.yes(told(row.method, row.args) + " is accepted, but: " + got, !got.endsWith("Exception"));
        if (ASKING.contains(row.method)) {
            Due.same(told(row.method, row.args) + " asks, and changes nothing", "",
                    Whole.difference(whole, Whole.of(x)));
        }
        if (!row.method.startsWith("push")) {
            Due.same(told(row.method, row.args) + " does not change the other repository", "",
                    Whole.difference(other, Whole.of(x, 1)));
        }
    }

    /** If several apply, the exception that the throws clauses name first is thrown. */
    private static void precedence(Row row, Map<Integer, List<Object>> places, Map<Integer, List<Object>> ranges) {
        for (int k : places.keySet()) {
            Object[] args = with(row.args, k, places.get(k).get(0));
            for (int m : ranges.keySet()) {
                Object[] both = with(args, m, ranges.get(m).get(0));
                Edge.refused(told(row.method, both) + ", by two", Due.INDEX, row.scene, x -> call(x, row.method, both));
            }
            if (row.refusing != null) {
                Edge.refused(told(row.method, args) + ", by two", Due.INDEX, row.refusing,
                        x -> call(x, row.method, args));
            }
        }
        if (row.refusing != null) {
            Edge.refused(told(row.method, row.args) + ", refused", Due.STATE, row.refusing,
                    x -> call(x, row.method, row.args));
            for (int m : ranges.keySet()) {
                Object[] args = with(row.args, m, ranges.get(m).get(0));
                Edge.refused(told(row.method, args) + ", by two", Due.ARGUMENT, row.refusing,
                        x -> call(x, row.method, args));
            }
        }
    }

    private static boolean isRange(String method, String name) {
        boolean none = name.equals("context") && !method.equals("hunks");
        return RANGES.containsKey(name) && !none;
    }

    private static List<Object> wrong(Row row, String name) {
        if (isRange(row.method, name)) {
            int[] range = RANGES.getOrDefault(row.method + " " + name, RANGES.get(name));
            return List.of(range[0] - 1, range[1] + 1, LEAST, MOST);
        }
        switch (kind(row.method, name)) {
            case "repo": return List.of(-1, 2, LEAST, MOST);
            case "path": return List.of(-1, 16, LEAST, MOST);
            case "ref": return List.of(-1, 6, LEAST, MOST);
            case "stage": return List.of(-1, 3, LEAST, MOST);
            case "context": return List.of(-1, 10, LEAST, MOST);
            case "place": return row.lastPlace == MOST ? List.of(-1, LEAST) : List.of(-1, row.lastPlace + 1, LEAST, MOST);
            default: return wrongObjects(row, kind(row.method, name));
        }
    }

    /** Numbers below, behind the last, collected, and of the other kinds. */
    private static List<Object> wrongObjects(Row row, String kind) {
        VersionWorks x = row.scene.make();
        List<Object> out = new ArrayList<>(List.of(-2, x.objects(0), 240, 241, LEAST, MOST));
        if (!kind.endsWith("NONE")) {
            out.add(0, -1);
        }
        if (!kind.equals("number")) {
            out.add(Scenes.GONE);
        }
        if (!kind.equals("number") && !kind.equals("object")) {
            boolean dated = kind.equals("dated");
            for (int object : new int[] {Scenes.BLOB, Scenes.TREE, Scenes.ROOT, Scenes.TAGGED}) {
                String is = new String[] {"blob", "tree", "commit", "tagObject"}[x.kind(0, object)];
                if (dated ? x.kind(0, object) < 2 : !kind.startsWith(is)) {
                    out.add(object);
                }
            }
        }
        return out;
    }

    private static List<Object> right(Row row, String name) {
        if (isRange(row.method, name)) {
            int[] range = RANGES.getOrDefault(row.method + " " + name, RANGES.get(name));
            return List.of(range[0], range[1]);
        }
        switch (kind(row.method, name)) {
            case "repo": return List.of(0, 1);
            case "path": return List.of(0, 15);
            case "ref": return List.of(0, 5);
            case "stage": return List.of(0, 2);
            case "context": return List.of(0, 9);
            case "place": return List.of(0, row.lastPlace);
            case "commit or NONE": return List.of(NONE, Scenes.ROOT);
            case "blob or NONE": return row.method.equals("diffPair") ? List.of(Scenes.BLOB)
                    : row.method.startsWith("hunk") ? List.of(NONE) : List.of(NONE, Scenes.BLOB);
            case "dated": return List.of(Scenes.ROOT, Scenes.TAGGED);
            case "object": return List.of(Scenes.BLOB, Scenes.TREE, Scenes.ROOT, Scenes.TAGGED);
            case "number": return List.of(Scenes.GONE, row.scene.make().objects(0) - 1);
            default: return List.of();
        }
    }

    private static String kind(String method, String name) {
        switch (name) {
            case "repo": case "path": case "stage": case "context": case "commit": case "blob": case "tree": case "tagObject":
                return name;
            case "branch": case "tag": case "track": case "target":
                return "ref";
            case "place": case "hunk": case "stash":
                return "place";
            case "bad": case "good": case "upstream": case "onto": case "ours": case "theirs":
                return "commit";
            case "base":
                return "blob";
            case "from": case "to":
                return method.equals("renamedFrom") ? "commit" : method.equals("changed") ? "commit or NONE" : "blob or NONE";
            case "object":
                return method.equals("kind") ? "number" : method.equals("date") || method.equals("message") ? "dated" : name;
            case "other":
                return method.equals("moveFile") ? "path" : method.equals("renameBranch") ? "ref"
                        : method.equals("likeness") ? "blob" : "commit";
            default:
                throw new RuntimeException("an argument that was not thought of: " + method + " " + name);
        }
    }

    private static Object[] with(Object[] args, int place, Object value) {
        Object[] out = args.clone();
        out[place] = value;
        return out;
    }

    private static String told(String method, Object[] args) {
        return method + Arrays.toString(args);
    }

    private static long call(VersionWorks x, String method, Object[] args) {
        try {
            Object got = METHODS.get(method).invoke(x, args);
            return got instanceof Boolean b ? Edge.yes(b) : (Integer) got;
        } catch (InvocationTargetException e) {
            if (e.getCause() instanceof RuntimeException thrown) {
                throw thrown;
            }
            throw new RuntimeException(e.getCause());
        } catch (IllegalAccessException e) {
            throw new RuntimeException(e);
        }
    }

    private static void writeDigits() {
        Edge.says("write", "`digits`: 0, or a positive number without the digit 0");
        Due.is("the least number", 1, () -> new VersionWorks().write(0, 0, 1));
        Due.is("the greatest one", 19, () -> new VersionWorks().write(0, 0, 9199999999999999999L));
        Due.is("the greatest int", 10, () -> new VersionWorks().write(0, 0, 2147483647L));
        Edge.says("write", "if digits is below 0, or is not 0 and has a digit 0");
        for (long wrong : new long[] {-1, Long.MIN_VALUE, -11, 10, 101, 1111111111111111110L, 1011111111111111111L,
                4294967290L, Long.MIN_VALUE + 1}) {
            boolean zero = wrong < 0 || Long.toString(wrong).indexOf('0') >= 0;
            Due.yes("it is wrong " + wrong, zero);
            Edge.argument("write", wrong < 0 ? "digits is below 0" : "is not 0 and has a digit 0", Scenes::ends,
                    x -> x.write(0, 0, wrong));
        }
        Due.is("the greatest long has no digit 0", Long.toString(Long.MAX_VALUE).indexOf('0') >= 0 ? Due.ARGUMENT : 19,
                () -> new VersionWorks().write(0, 0, Long.MAX_VALUE));
        Edge.index("write", "if there is no such repository or path", Scenes::ends, x -> x.write(2, 0, 10));
        Edge.index("write", "if there is no such repository or path", Scenes::ends, x -> x.write(0, 16, -1));
    }

    private static void theNumbersOfObjects() {
        Edge.says("kind", "NONE if it was collected");
        Due.is("of a collected one", NONE, () -> Scenes.ends().kind(0, Scenes.GONE));
        Edge.says("kind", "or the number was not given yet");
        Edge.refused("not given yet", Due.INDEX, Scenes::ends, x -> x.kind(0, Scenes.COUNT));
        Due.yes("the last one given", Scenes.ends().kind(0, Scenes.COUNT - 1) != NONE);
        Edge.refused("in an empty repository", Due.INDEX, Scenes::empty, x -> x.kind(0, 0));
        VersionWorks x = Scenes.full(Scenes::ends, 0, 0);
        Due.is("the last one there can be", 0, () -> x.kind(0, 239));
        Due.index("behind the last one there can be", () -> x.kind(0, 240));
        Due.index("no blob there", () -> x.blobLines(0, 240));
        Due.index("no twin of it", () -> x.twin(0, 240));
        Due.index("not reached", () -> Edge.yes(x.isReached(0, 240)));
        Edge.says("part 2", "What is present is told by kind() alone without an exception");
        Due.is("kind of what was collected", NONE, () -> x.kind(0, Scenes.GONE));
        Due.index("stamp of what was collected", () -> x.stamp(0, Scenes.GONE));
        Due.index("lines of what was collected", () -> x.blobLines(0, Scenes.GONE));
        Due.index("twin of what was collected", () -> x.twin(0, Scenes.GONE));
    }
}
