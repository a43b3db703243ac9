/** All that can be asked of an object, as one text: what two objects of the same state tell alike. */
final class Whole {
    private Whole() {
    }

    static String of(VersionWorks x) {
        return "transfer " + x.rounds() + " " + x.told() + " " + x.sent() + " " + x.doubles() + " fault " + x.fault()
                + "\n" + of(x, 0) + of(x, 1);
    }

    /** All of one repository; which paths are ignored is asked by ignoring them, and taken back at once. */
    static String of(VersionWorks x, int r) {
        StringBuilder out = new StringBuilder("repository ").append(r).append("\n");
        out.append("clock ").append(x.clock(r)).append(" head ").append(x.head(r)).append(" on ").append(x.headBranch(r))
                .append(" operation ").append(x.operation(r)).append(" at ").append(x.operationCommit(r)).append("\n");
        for (int n = 0; n < 6; n++) {
            out.append("refs ").append(n).append(": ").append(x.branchAt(r, n)).append(" ").append(x.tagAt(r, n))
                    .append(" ").append(x.trackAt(r, n)).append("\n");
        }
        for (int k = 0; k < x.reflog(r); k++) {
            out.append("entry ").append(x.reflogCommit(r, k)).append(" ").append(x.reflogAct(r, k)).append(" ")
                    .append(x.reflogDate(r, k)).append("\n");
        }
        for (int k = 0; k < x.todo(r); k++) {
            out.append("todo ").append(x.todoAt(r, k)).append("\n");
        }
        for (int k = 0; k < x.stashes(r); k++) {
            out.append("stash ").append(x.stashAt(r, k)).append("\n");
        }
        for (int k = 0; k < x.left(r); k++) {
            out.append("left ").append(x.leftAt(r, k)).append("\n");
        }
        if (x.left(r) != VersionWorks.NONE) {
            out.append("next ").append(x.nextTest(r)).append(" tests ").append(x.tests(r)).append("\n");
        }
        paths(x, r, out);
        objects(x, r, out);
        return out.append("reached ").append(x.reached(r)).append(" size ").append(x.packSize(r)).append("\n").toString();
    }

    private static void paths(VersionWorks x, int r, StringBuilder out) {
        for (int p = 0; p < 16; p++) {
            boolean ignored = x.ignore(r, p, true);
            x.ignore(r, p, ignored);
            int lines = x.fileLines(r, p);
            out.append("path ").append(p).append(ignored ? " ignored" : "").append(" index ").append(x.indexed(r, p))
                    .append(" ").append(x.stage(r, p, 0)).append(" ").append(x.stage(r, p, 1)).append(" ")
                    .append(x.stage(r, p, 2)).append(" ").append(x.staged(r, p)).append(" file ").append(lines);
            for (int k = 0; k < lines; k++) {
                out.append(k == 0 ? ": " : " ").append(x.fileLine(r, p, k));
            }
            out.append("\n");
        }
    }

    private static void objects(VersionWorks x, int r, StringBuilder out) {
        for (int o = 0; o < x.objects(r); o++) {
            int kind = x.kind(r, o);
            out.append("object ").append(o).append(" kind ").append(kind);
            if (kind != VersionWorks.NONE) {
                out.append(" stamp ").append(x.stamp(r, o)).append(x.isPacked(r, o) ? " packed:" : ":");
            }
            if (kind == 0) {
                for (int k = 0; k < x.blobLines(r, o); k++) {
                    out.append(" ").append(x.blobLine(r, o, k));
                }
                out.append(" out of ").append(x.packBase(r, o));
            }
            for (int k = 0; kind == 1 && k < 4; k++) {
                out.append(" ").append(x.entry(r, o, k));
            }
            if (kind == 2) {
                out.append(" ").append(x.rootTree(r, o)).append(" ").append(x.parent(r, o, 0)).append(" ")
                        .append(x.parent(r, o, 1)).append(" by ").append(x.author(r, o));
            }
            if (kind == 3) {
                out.append(" ").append(x.tagged(r, o));
            }
            if (kind > 1) {
                out.append(" on ").append(x.date(r, o)).append(" says ").append(x.message(r, o));
            }
            out.append("\n");
        }
    }

    /** The first line in which two texts differ, of both. */
    static String difference(String one, String other) {
        String[] a = one.split("\n");
        String[] b = other.split("\n");
        for (int k = 0; k < Math.max(a.length, b.length); k++) {
            String left = k < a.length ? a[k] : "nothing";
            String right = k < b.length ? b[k] : "nothing";
            if (!left.equals(right)) {
                return left + " | " + right;
            }
        }
        return "";
    }
}
