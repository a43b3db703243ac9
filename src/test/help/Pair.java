import java.lang.reflect.InvocationTargetException;
import java.lang.reflect.Method;
import java.util.ArrayList;
import java.util.HashMap;
import java.util.List;
import java.util.Map;
import java.util.Random;

/** An object of the class and the model beside it: each call is made on both, and their answers are compared. */
final class Pair {
    private static final Map<String, Method> WORKS = methods(VersionWorks.class);
    private static final Map<String, Method> MODEL = methods(Model.class);

    final VersionWorks works = new VersionWorks();
    final Model model = new Model();
    final String name;
    final List<String> calls = new ArrayList<>();
    boolean broken;
    /** Whether arguments are drawn from the ends of their ranges. */
    boolean ends;

    Pair(String name) {
        this.name = name;
    }

    static Map<String, Method> methods(Class<?> of) {
        Map<String, Method> out = new HashMap<>();
        for (Method m : of.getDeclaredMethods()) {
            if (java.lang.reflect.Modifier.isPublic(m.getModifiers())) {
                m.setAccessible(true);
                out.put(m.getName(), m);
            }
        }
        return out;
    }

    private static String answer(Method method, Object on, Object[] args) {
        try {
            Object got = method.invoke(on, args);
            return got instanceof Boolean b ? b ? "1" : "0" : got.toString();
        } catch (InvocationTargetException e) {
            return e.getCause().getClass().getSimpleName();
        } catch (IllegalAccessException e) {
            return "no access";
        }
    }

    /** How often each method had each answer; for the eyes of who looks after what the random runs come to. */
    static final Map<String, Integer> SEEN = new java.util.TreeMap<>();

    private static void see(String method, String answer) {
        String kind = answer.endsWith("Exception") || answer.length() < 2 ? answer : "more";
        SEEN.merge(method + " " + kind, 1, Integer::sum);
    }

    /** Makes a call on both; answers what the model answered. */
    String call(String method, Object... args) {
        String text = method + java.util.Arrays.toString(args);
        calls.add(text);
        String want = answer(MODEL.get(method), model, args);
        String got = answer(WORKS.get(method), works, args);
        see(method, want);
        if (!want.equals(got) && !broken) {
            broken = true;
            System.out.println(name + ", the last calls ahead:");
            for (String c : calls.subList(Math.max(0, calls.size() - 400), calls.size())) {
                if (java.util.Arrays.stream(ACTING).anyMatch(row -> c.startsWith(row.split(" ")[0] + "["))
                        || c.startsWith("rehearse[")) {
                    System.out.println("    " + c);
                }
            }
        }
        Due.same(name + ", call " + calls.size() + " " + text, want, got);
        return want;
    }

    int number(String method, Object... args) {
        return Integer.parseInt(call(method, args));
    }

    /** Asks all that can be asked of both repositories without exceptions. */
    void compareState() {
        for (int r = 0; r < 2; r++) {
            for (String m : List.of("objects", "clock", "head", "headBranch", "reflog", "operation", "operationCommit",
                    "todo", "reached", "dangling", "packSize", "left", "stashes")) {
                call(m, r);
            }
            for (int p = 0; p < 16; p++) {
                int lines = number("fileLines", r, p);
                for (int k = 0; k < lines; k++) {
                    call("fileLine", r, p, k);
                }
                for (String m : List.of("indexed", "staged", "unstaged")) {
                    call(m, r, p);
                }
                for (int s = 0; s < 3; s++) {
                    call("stage", r, p, s);
                }
            }
            for (int i = 0; i < 6; i++) {
                call("branchAt", r, i);
                call("tagAt", r, i);
                call("trackAt", r, i);
            }
            for (int i = 0; i < model.reflog(r); i++) {
                call("reflogCommit", r, i);
                call("reflogAct", r, i);
                call("reflogDate", r, i);
            }
            for (int i = 0; i < model.todo(r); i++) {
                call("todoAt", r, i);
            }
            for (int i = 0; i < model.stashes(r); i++) {
                call("stashAt", r, i);
            }
            compareObjects(r);
        }
        for (String m : List.of("rounds", "told", "sent", "doubles", "fault")) {
            call(m);
        }
    }

    private void compareObjects(int r) {
        for (int o = 0; o < model.objects(r); o++) {
            int kind = number("kind", r, o);
            if (kind == -1) {
                continue;
            }
            call("stamp", r, o);
            call("isPacked", r, o);
            if (kind == 0) {
                int lines = number("blobLines", r, o);
                for (int k = 0; k < lines; k++) {
                    call("blobLine", r, o, k);
                }
                call("packBase", r, o);
                call("packDepth", r, o);
            } else if (kind == 1) {
                for (int k = 0; k < 4; k++) {
                    call("entry", r, o, k);
                }
            } else {
                call("date", r, o);
                call("message", r, o);
                if (kind == 3) {
                    call("tagged", r, o);
                } else {
                    call("author", r, o);
                    call("rootTree", r, o);
                    call("parent", r, o, 0);
                    call("parent", r, o, 1);
                }
            }
        }
    }

    // ---- random calls

    /** The methods with the kinds of their arguments, as argument() reads them. */
    static final String[] ASKING = {
        "fileLines rp", "fileLine rpk", "objects r", "kind ro", "stamp ro", "blobLines rb", "blobLine rbk", "entry rtq",
        "rootTree rc", "parent rcq", "author rc", "date ro", "message ro", "tagged ro", "blobAt rcp", "twin ro", "twin ro",
        "indexed rp", "stage rpq", "staged rp", "unstaged rp", "clock r", "head r", "headBranch r", "branchAt rn",
        "tagAt rn", "trackAt rn", "reflog r", "reflogCommit rk", "reflogAct rk", "reflogDate rk", "fault", "resolve r",
        "list r", "listed rk", "isAncestor rcc", "generation rc", "bases rcc", "bases rcc", "base rccq", "ahead rcc",
        "describe rc", "containing rc", "diffSize rBB", "diffPair rBBk", "hunks rBBx", "hunkStart rBBxqf",
        "hunkLength rBBxqf", "likeness rbb", "changed rCC", "renamedFrom rccph", "blame rcpkh", "blamePath rcpkh",
        "blamePlace rcpkh", "pathLog rcp", "pathLogAt rcpq", "operation r", "operationCommit r", "todo r", "todoAt rq",
        "wouldClash rcc", "mergedLines rccp", "mergedLine rccpk", "baseLines rccp", "baseLine rccpk", "wouldSend rc",
        "rounds", "told", "sent", "doubles", "reached r", "isReached ro", "dangling r", "danglingAt rk", "isPacked ro",
        "packBase rb", "packDepth rb", "packedLine rbk", "packSize r", "deltaCost rbb", "left r", "leftAt rk",
        "weight rc", "nextTest r", "culprit r", "tests r", "testsFor rc", "stashes r", "stashAt rq", "isSound rs",
    };

    static final String[] ACTING = {
        "write rpd", "write rpd", "write rpd", "insertLine rpkl", "insertLine rpkl", "insertLine rpkl", "insertLine rpkl",
        "insertLine rpkl", "deleteLine rpk", "deleteLine rpk", "removeFile rp", "moveFile rpp", "moveFile rpp",
        "ignore rpf", "clean r", "add rp", "add rp", "addAll r", "addAll r", "addAll r", "addAll r", "addAll r",
        "unstage rp", "restore rp", "commit ram", "commit ram", "commit ram", "commit ram", "commit ram", "commit ram",
        "amend ram", "tick rw", "tick rw", "branch rnc", "branch rnc", "branch rnc", "moveBranch rnc", "deleteBranch rnf",
        "renameBranch rnn", "startBranch rn", "switchTo rn", "switchTo rn", "switchTo rn", "detach rc", "reset rcq",
        "reset rcz", "tag rnc", "annotate rncm", "deleteTag rn", "type y", "type y", "type y", "clearText",
        "merge rcvvam", "merge rcvvam", "merge rcvvam", "merge rc0vam", "cherryPick rcvv", "cherryPick rc0v",
        "cherryPick rc0v", "revert rcvvam", "revert rc0vam", "rebase rccv", "rebase rccv", "rebase rcc0", "proceed r",
        "proceed r", "skip r", "abort r", "takeStage rpv", "takeStage rpv", "mergeFile rpv", "mergeFile rpv", "fetch rg",
        "fetch rg", "push rnnvg", "push rnnvg", "push rnnvg", "pushDelete rn", "pruneTracks r", "collect re",
        "expireReflog re", "pack rxx", "bisectStart rcc", "bisectGood rc", "bisectBad rc", "bisectSkip rc",
        "bisectEnd r", "stashPush ram", "stashPush ram", "stashApply rif", "stashApply rif", "stashPop rif",
        "stashPop rif", "stashDrop ri",
    };

    Object argument(char kind, Random random, int repo) {
        int wild = random.nextInt(60);
        if (wild == 0) {
            return kind == 'f' ? (Object) random.nextBoolean() : kind == 'd' ? (Object) random.nextLong()
                    : (Object) new int[] {-2, -1, 240, 1000, Integer.MIN_VALUE, Integer.MAX_VALUE}[random.nextInt(6)];
        }
        Integer end = ends ? end(kind, random, repo) : null;
        if (end != null) {
            return end;
        }
        switch (kind) {
            case 'r': return repo;
            case 'p': return conflictOr(random, repo, new int[] {0, 1, 2, 5, 6, 11}[random.nextInt(6)]);
            case 'k': return random.nextInt(3) == 0 ? random.nextInt(40) : random.nextInt(7);
            case 'q': return random.nextInt(4);
            case 'v': return random.nextInt(3);
            case 'z': return 2;
            case '0': return 0;
            case 'i': return random.nextInt(2);
            case 'n': return random.nextInt(5) == 0 ? random.nextInt(7) : random.nextInt(4);
            case 'l': return 1 + random.nextInt(random.nextInt(3) == 0 ? 99 : 4);
            case 'a': return random.nextInt(3);
            case 'm': return random.nextInt(4);
            case 'w': return 1 + random.nextInt(random.nextInt(8) == 0 ? 999 : 4);
            case 'f': return random.nextBoolean();
            case 'h': return random.nextInt(101);
            case 'x': return random.nextInt(10);
            case 's': return random.nextInt(12);
            case 'g': return random.nextInt(3) == 0 ? 1 + random.nextInt(30) : 240;
            case 'e': return random.nextInt(4) == 0 ? random.nextInt(3) : random.nextInt(60);
            case 'y': return (int) "HBTRB@~~^^012345..9".charAt(random.nextInt(19));
            case 'd': return digits(random);
            case 'o': return random.nextInt(Math.max(1, model.objects(repo)));
            case 'b': return pick(0, random, repo);
            case 't': return pick(1, random, repo);
            case 'c': return pick(2, random, repo);
            case 'B': return random.nextInt(10) == 0 ? -1 : pick(0, random, repo);
            case 'C': return random.nextInt(10) == 0 ? -1 : pick(2, random, repo);
            default: throw new RuntimeException("no such kind of argument: " + kind);
        }
    }

    private static int oneOf(Random random, int... all) {
        return all[random.nextInt(all.length)];
    }

    /** An argument at, or just beside, an end of its range; null where the kind has none. */
    private Integer end(char kind, Random random, int repo) {
        switch (kind) {
            case 'p': return conflictOr(random, repo, oneOf(random, 0, 15, 0, 15, 3, 4, 12));
            case 'n': return oneOf(random, 0, 5, 0, 5, 1, 4, random.nextInt(8) == 0 ? 6 : 2);
            case 'l': return oneOf(random, 1, 99, 2, 98, 1, 99, random.nextInt(8) == 0 ? 100 : 3);
            case 'k': return oneOf(random, 0, 1, 58, 59, 60, 61, random.nextInt(62), random.nextInt(62));
            case 'a': return oneOf(random, 0, 9, 0, 9, random.nextInt(8) == 0 ? 10 : 1);
            case 'm': return oneOf(random, 0, 99, 0, 99, random.nextInt(8) == 0 ? 100 : 1);
            case 'w': return oneOf(random, 1, 999, 1, 2, random.nextInt(8) == 0 ? 1000 : 3);
            case 'h': return oneOf(random, 0, 1, 100, 50, 66, random.nextInt(8) == 0 ? 101 : 99);
            case 'x': return oneOf(random, 0, 1, 8, 9, 2);
            case 'g': return oneOf(random, 1, 2, 4, 21, 22, 239, 240, 240, 240);
            case 'e': return oneOf(random, 0, 1, 2, 9999, random.nextInt(9) == 0 ? 10000 : 998);
            case 'i': return oneOf(random, 0, 5, random.nextInt(6), 0, 0);
            default: return null;
        }
    }

    private int conflictOr(Random random, int repo, int path) {
        if (random.nextInt(3) == 0) {
            for (int p = 0; p < 16; p++) {
                if (model.staged(repo, p) == 4) {
                    return p;
                }
            }
        }
        return path;
    }

    private static long digits(Random random) {
        long d = 0;
        int n = random.nextInt(random.nextInt(4) == 0 ? 19 : 7);
        for (int i = 0; i < n; i++) {
            d = d * 10 + 1 + random.nextInt(random.nextInt(5) == 0 ? 9 : 3);
        }
        return d;
    }

    /** An object of a kind: of late ones more often; for commits also those where refs are. */
    private int pick(int kind, Random random, int repo) {
        List<Integer> all = new ArrayList<>();
        for (int o = 0; o < model.objects(repo); o++) {
            if (model.kind(repo, o) == kind) {
                all.add(o);
            }
        }
        if (all.isEmpty()) {
            return random.nextInt(5);
        }
        if (kind == 2 && random.nextInt(2) == 0) {
            int at = random.nextBoolean() ? model.branchAt(repo, random.nextInt(4)) : model.trackAt(repo, random.nextInt(4));
            if (at >= 0) {
                return at;
            }
        }
        int last = all.size();
        return all.get(random.nextBoolean() ? random.nextInt(last) : last - 1 - random.nextInt(Math.min(last, 5)));
    }

    String random(String[] table, Random random, int repo) {
        String[] row = table[random.nextInt(table.length)].split(" ");
        String kinds = row.length > 1 ? row[1] : "";
        Object[] args = new Object[kinds.length()];
        for (int i = 0; i < args.length; i++) {
            args[i] = argument(kinds.charAt(i), random, repo);
        }
        return call(row[0], args);
    }
}
