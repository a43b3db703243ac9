import java.util.Random;

/** Runs of random calls, on the class and on the model of the document beside it. */
final class ModelRuns {
    public static void main(String[] args) {
        int from = args.length > 0 ? Integer.parseInt(args[0]) : 1;
        int to = args.length > 1 ? Integer.parseInt(args[1]) : 60;
        for (int seed = from; seed <= to; seed++) {
            run(seed);
        }
        if (args.length > 2) {
            System.out.println(Pair.SEEN);
        }
        Due.end("ModelRuns");
    }

    private static void run(int seed) {
        Random random = new Random(seed);
        Pair pair = new Pair("seed " + seed);
        int warmups = random.nextInt(4);
        for (int i = 0; i < warmups; i++) {
            pair.call("rehearse", random.nextInt(2), random.nextInt(65536), 1 + random.nextInt(40));
        }
        int repo = 0;
        for (int step = 0; step < 400 && !pair.broken; step++) {
            if (random.nextInt(12) == 0) {
                repo = 1 - repo;
            }
            pair.random(Pair.ACTING, random, repo);
            if (random.nextInt(3) == 0) {
                pair.random(Pair.ASKING, random, random.nextInt(5) == 0 ? 1 - repo : repo);
            }
            if (random.nextInt(60) == 0) {
                pair.call("rehearse", repo, random.nextInt(65536), 1 + random.nextInt(10));
            }
            if (step % 25 == 24) {
                pair.compareState();
            }
            if (step % 100 == 99) {
                pair.call("isSound", 0, 0);
                pair.call("isSound", 1, 0);
            }
        }
        pair.compareState();
    }
}
