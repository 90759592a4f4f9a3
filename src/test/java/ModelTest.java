import java.util.Random;

/** All promises at once: long runs of calls drawn from a fixed seed, on the class and on the model of the document. */
final class ModelTest {
    private static final int RUNS = 1500;
    private static final int CALLS = 448;
    private static final int[] EDGES = {-1, 0, 1, 7, 8, 63, 64, 65, Integer.MIN_VALUE, Integer.MAX_VALUE};
    private static final long[] LONG_EDGES = {0, 1, -1, -2, 65535, 65536, 65537, Long.MIN_VALUE, Long.MAX_VALUE,
        0xffff0000ffff0000L, 0x0000ffff0000ffffL};

    private final Random random;
    private final RuleCiphers cabinet = new RuleCiphers();
    private final Model model = new Model();
    private final String name;

    private ModelTest(int run) {
        random = new Random(run);
        name = "run " + run;
    }

    public static void main(String[] args) {
        for (int run = 0; run < RUNS; run++) {
            new ModelTest(run).calls();
        }
        Check.end();
    }

    /** With the 64 gets at the end these are the 512 calls that an object is used for. */
    private void calls() {
        for (int call = 0; call < CALLS; call++) {
            one(call);
        }
        for (int i = 0; i < 64; i++) {
            int place = i;
            both("get " + place, () -> cabinet.get(place), () -> model.get(place));
        }
    }

    private void one(int call) {
        int context = context();
        boolean back = random.nextBoolean();
        long first = anyLong();
        long second = anyLong();
        int from = from();
        int many = many(from);
        String told = " " + call + ": (" + context + ", " + back + ", " + from + ", " + many + ", " + first + ", "
                + second + ")";
        switch (random.nextInt(24)) {
            case 0, 1 -> {
                int cipher = small(5);
                both("choose " + cipher + told, done(() -> cabinet.choose(context, cipher)),
                        done(() -> model.choose(context, cipher)));
            }
            case 2, 3 -> both("key" + told, done(() -> cabinet.key(context, first, second)),
                    done(() -> model.key(context, first, second)));
            case 4, 5, 6 -> {
                int mode = small(6);
                both("mode " + mode + told, done(() -> cabinet.mode(context, mode, first)),
                        done(() -> model.mode(context, mode, first)));
            }
            case 7 -> {
                // Seldom, so that contexts live long enough to be used.
                if (random.nextInt(3) == 0) {
                    both("free" + told, done(() -> cabinet.free(context)), done(() -> model.free(context)));
                }
            }
            case 8 -> both("stage" + told, () -> cabinet.stage(context), () -> model.stage(context));
            case 9, 10 -> both("block" + told, () -> cabinet.block(context, back, first),
                    () -> model.block(context, back, first));
            case 11, 12 -> {
                int i = small(53);
                both("word " + i + told, () -> cabinet.word(context, i), () -> model.word(context, i));
            }
            case 13, 14 -> both("put" + told, done(() -> cabinet.put(from, (int) first)),
                    done(() -> model.put(from, (int) first)));
            case 15 -> both("get" + told, () -> cabinet.get(from), () -> model.get(from));
            case 16, 17, 18, 19 -> both("feed" + told, () -> cabinet.feed(context, back, from, many),
                    () -> model.feed(context, back, from, many));
            case 20 -> both("seek" + told, done(() -> cabinet.seek(context, first)),
                    done(() -> model.seek(context, first)));
            case 21, 22 -> both("take" + told, () -> cabinet.take(context, from, many),
                    () -> model.take(context, from, many));
            default -> both("tag" + told, () -> cabinet.tag(context), () -> model.tag(context));
        }
    }

    private void both(String call, Check.Call got, Check.Call due) {
        Check.same(name + " " + call, Check.outcome(due), Check.outcome(got));
    }

    private static Check.Call done(Check.Act act) {
        return () -> {
            act.run();
            return 0;
        };
    }

    private int context() {
        return random.nextInt(40) == 0 ? edge() : random.nextInt(4);
    }

    private int small(int bound) {
        return random.nextInt(20) == 0 ? edge() : random.nextInt(bound);
    }

    private int from() {
        return random.nextInt(20) == 0 ? edge() : random.nextInt(64);
    }

    private int many(int from) {
        int kind = random.nextInt(20);
        if (kind == 0) {
            return edge();
        }
        int room = Math.max(0, Math.min(64, 64 - Math.max(0, from)));
        int many = random.nextInt(room + 1);
        return kind < 10 ? many / 8 * 8 : many;
    }

    private int edge() {
        return EDGES[random.nextInt(EDGES.length)];
    }

    private long anyLong() {
        return random.nextInt(4) == 0 ? LONG_EDGES[random.nextInt(LONG_EDGES.length)] : random.nextLong();
    }
}
