import java.util.Random;

/** Repositories that come to their last object numbers, on the class and on the model; rehearsals, and texts. */
final class FullRuns {
    public static void main(String[] args) {
        int from = args.length > 0 ? Integer.parseInt(args[0]) : 1;
        int to = args.length > 1 ? Integer.parseInt(args[1]) : 25;
        for (int seed = from; seed <= to; seed++) {
            full(seed);
            rehearsed(seed);
            texts(seed);
        }
        if (args.length > 2) {
            System.out.println(Pair.SEEN);
        }
        Due.end("FullRuns");
    }

    private static void full(int seed) {
        Random random = new Random(seed);
        Pair pair = new Pair("full seed " + seed);
        int most = 225 + random.nextInt(15);
        for (int step = 0; step < 150 && pair.model.objects(0) < most; step++) {
            pair.call("write", 0, random.nextInt(3), 1111111L * (1 + random.nextInt(9)) + 1 + random.nextInt(8));
            pair.call("addAll", 0);
            pair.call("commit", 0, 1, random.nextInt(90));
            if (random.nextInt(6) == 0) {
                pair.call("branch", 0, random.nextInt(6), pair.model.head(0));
            }
        }
        if (random.nextBoolean()) {
            pair.call("fetch", 1, 240);
        }
        for (int step = 0; step < 120 && !pair.broken; step++) {
            pair.random(Pair.ACTING, random, random.nextInt(5) == 0 ? 1 : 0);
            if (step % 20 == 19) {
                pair.compareState();
            }
        }
        pair.call("isSound", 0, 0);
        pair.call("isSound", 1, 0);
        pair.compareState();
    }

    private static void rehearsed(int seed) {
        Random random = new Random(seed);
        Pair pair = new Pair("rehearsed seed " + seed);
        for (int round = 0; round < 30 && !pair.broken; round++) {
            pair.call("rehearse", random.nextInt(2), random.nextInt(65536), 1 + random.nextInt(40));
            pair.compareState();
            pair.call("isSound", round % 2, 0);
        }
    }

    private static void texts(int seed) {
        Random random = new Random(seed);
        Pair pair = new Pair("texts seed " + seed);
        for (int i = 0; i < 5; i++) {
            pair.call("rehearse", i % 2, random.nextInt(65536), 40);
        }
        pair.call("tag", 0, 5, pair.model.head(0));
        for (int round = 0; round < 300; round++) {
            pair.call("clearText");
            int pieces = 1 + random.nextInt(5);
            for (int k = 0; k < pieces; k++) {
                type(pair, piece(random, k));
            }
            pair.call("fault");
            for (int r = 0; r < 2; r++) {
                pair.call("resolve", r);
                String count = pair.call("list", r);
                int most = count.endsWith("Exception") ? 0 : Integer.parseInt(count);
                for (int k = 0; k <= most; k++) {
                    pair.call("listed", r, k);
                }
            }
        }
        for (int k = 0; k < 70; k++) {
            pair.call("type", (int) "~^012H".charAt(random.nextInt(6)));
        }
        pair.call("fault");
    }

    private static String piece(Random random, int k) {
        String[] starts = {"H", "B0", "B1", "B2", "T0", "T5", "R0", "R1", "H@0", "H@3", "H@12", "B6", "H@", "X"};
        String[] behind = {"~", "^", "~1", "~2", "^2", "^1", "^0", "~0", "^^", "..B0", "...B1", "..R0", "...H", ".",
            "..", "....B0", "~123", "^3", "7", "@", "~02"};
        return k == 0 ? starts[random.nextInt(random.nextInt(4) == 0 ? 14 : 11)]
                : behind[random.nextInt(random.nextInt(4) == 0 ? 21 : 13)];
    }

    private static void type(Pair pair, String text) {
        for (char c : text.toCharArray()) {
            pair.call("type", (int) c);
        }
    }
}
