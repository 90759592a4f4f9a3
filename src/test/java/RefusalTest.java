/**
 * "A call that throws changes nothing; where it lists more than one exception, the first one wins." Every refusal of
 * promises 2 to 14, in every stage and mode that it is due in, each with a look that it changed nothing. A method
 * looks at one sentence, which stands above it.
 */
final class RefusalTest {
    private static final String BOUNDS = "IndexOutOfBoundsException";
    private static final String ARGUMENT = "IllegalArgumentException";
    private static final String STATE = "IllegalStateException";

    private static final int[] NO_CONTEXTS = {-1, 4, 5, 255, 256, Integer.MIN_VALUE, Integer.MAX_VALUE};
    private static final int[] NO_PLACES = {-1, 64, 65, -64, 256, Integer.MIN_VALUE, Integer.MAX_VALUE};

    /** from and many: one byte too far at either end, far off, below 0, and sums beyond the greatest int. */
    private static final int[][] NOT_IN_BUFFER = {
        {-1, 1}, {-1, 8}, {-8, 8}, {-8, 16}, {-64, 64}, {-64, 128}, {64, 1}, {64, 8}, {63, 2}, {57, 8}, {56, 16},
        {1, 64}, {0, 65}, {0, 72}, {65, 8}, {0, -1}, {0, -8}, {8, -8}, {63, -1}, {64, -1}, {64, -64}, {-1, -1},
        {Integer.MAX_VALUE, 8}, {Integer.MAX_VALUE, 1}, {Integer.MIN_VALUE, 8}, {0, Integer.MAX_VALUE},
        {8, 0x7ffffff8}, {0, Integer.MIN_VALUE}, {Integer.MAX_VALUE, Integer.MAX_VALUE},
        {Integer.MIN_VALUE, Integer.MIN_VALUE}, {Integer.MIN_VALUE, Integer.MAX_VALUE},
        {0x7ffffff8, 0x7ffffff8}, {0x40000000, 0x40000000}, {-0x7ffffff8, 0x7ffffff8}};

    public static void main(String[] args) {
        for (int scene = 0; scene < Scene.COUNT; scene++) {
            contextCalls(scene);
            cipherCalls(scene);
            bufferCalls(scene);
            feedCalls(scene);
            tagCalls(scene);
        }
        Check.end();
    }

    private static void contextCalls(int scene) {
        chooseInNoContext(scene);
        chooseNoCipher(scene);
        chooseWhenNotFree(scene);
        keyInNoContext(scene);
        keyWhenFree(scene);
        modeInNoContext(scene);
        modeThatIsNone(scene);
        modeWhenNeither(scene);
        freeNoContext(scene);
        stageOfNoContext(scene);
    }

    private static void cipherCalls(int scene) {
        blockInNoContext(scene);
        blockWithoutKey(scene);
        wordInNoContext(scene);
        wordWithoutKey(scene);
    }

    private static void bufferCalls(int scene) {
        putInNoPlace(scene);
        getFromNoPlace(scene);
    }

    private static void feedCalls(int scene) {
        feedInNoContext(scene);
        feedOutsideTheBuffer(scene);
        feedWhenNotSet(scene);
        feedInMode5(scene);
        feedBrokenBlocks(scene);
        seekInNoContext(scene);
        seekOutsideMode4(scene);
    }

    private static void tagCalls(int scene) {
        takeInNoContext(scene);
        takeOutsideTheBuffer(scene);
        takeOutsideMode5(scene);
        tagInNoContext(scene);
        tagOutsideMode5(scene);
    }

    private static void refused(String what, String exception, int scene, Twins.Act call) {
        Twins.refused(what + " when " + Scene.name(scene), exception, x -> Scene.play(x, scene), call);
    }

    /** Promise 2: "IndexOutOfBounds", before "cipher is not 0 .. 4" and "it is not FREE". */
    private static void chooseInNoContext(int scene) {
        for (int none : NO_CONTEXTS) {
            for (int cipher : new int[] {0, 4, 5, -1}) {
                refused("2: choose(" + none + ", " + cipher + ")", BOUNDS, scene, x -> x.choose(none, cipher));
            }
        }
    }

    /** Promise 2: "IllegalArgument: cipher is not 0 .. 4", before "it is not FREE". */
    private static void chooseNoCipher(int scene) {
        for (int none : new int[] {-1, 5, 6, 256, Integer.MIN_VALUE, Integer.MAX_VALUE}) {
            refused("2: choose(0, " + none + ")", ARGUMENT, scene, x -> x.choose(0, none));
        }
    }

    /** Promise 2: "IllegalState: it is not FREE." */
    private static void chooseWhenNotFree(int scene) {
        if (scene == Scene.FREE) {
            return;
        }
        for (int cipher = 0; cipher < 5; cipher++) {
            int number = cipher;
            refused("2: choose(0, " + cipher + ")", STATE, scene, x -> x.choose(0, number));
        }
    }

    /** Promise 3: "IndexOutOfBounds". */
    private static void keyInNoContext(int scene) {
        for (int none : NO_CONTEXTS) {
            refused("3: key(" + none + ")", BOUNDS, scene, x -> x.key(none, 3, 4));
        }
    }

    /** Promise 3: "IllegalState: it is FREE." */
    private static void keyWhenFree(int scene) {
        if (scene == Scene.FREE) {
            refused("3: key(0)", STATE, scene, x -> x.key(0, 3, 4));
        }
    }

    /** Promise 4: "IndexOutOfBounds", before "mode is not 0 .. 5" and "it is neither". */
    private static void modeInNoContext(int scene) {
        for (int none : NO_CONTEXTS) {
            for (int mode : new int[] {0, 5, 6, -1}) {
                refused("4: mode(" + none + ", " + mode + ")", BOUNDS, scene, x -> x.mode(none, mode, 9));
            }
        }
    }

    /** Promise 4: "IllegalArgument: mode is not 0 .. 5", before "it is neither". */
    private static void modeThatIsNone(int scene) {
        for (int none : new int[] {-1, 6, 7, 256, Integer.MIN_VALUE, Integer.MAX_VALUE}) {
            refused("4: mode(0, " + none + ")", ARGUMENT, scene, x -> x.mode(0, none, 9));
        }
    }

    /** Promise 4: "IllegalState: it is neither" KEYED nor SET. */
    private static void modeWhenNeither(int scene) {
        for (int mode = 0; scene < Scene.KEYED && mode < 6; mode++) {
            int number = mode;
            refused("4: mode(0, " + mode + ")", STATE, scene, x -> x.mode(0, number, 9));
        }
    }

    /** Promise 5: "IndexOutOfBounds". */
    private static void freeNoContext(int scene) {
        for (int none : NO_CONTEXTS) {
            refused("5: free(" + none + ")", BOUNDS, scene, x -> x.free(none));
        }
    }

    /** Promise 6: "IndexOutOfBounds". */
    private static void stageOfNoContext(int scene) {
        for (int none : NO_CONTEXTS) {
            refused("6: stage(" + none + ")", BOUNDS, scene, x -> x.stage(none));
        }
    }

    /** Promise 7: "IndexOutOfBounds". */
    private static void blockInNoContext(int scene) {
        for (int none : NO_CONTEXTS) {
            refused("7: block(" + none + ", on)", BOUNDS, scene, x -> x.block(none, false, 9));
            refused("7: block(" + none + ", back)", BOUNDS, scene, x -> x.block(none, true, 9));
        }
    }

    /** Promise 7: "IllegalState: it is not KEYED or SET." */
    private static void blockWithoutKey(int scene) {
        if (scene < Scene.KEYED) {
            refused("7: block(0, on)", STATE, scene, x -> x.block(0, false, 9));
            refused("7: block(0, back)", STATE, scene, x -> x.block(0, true, 9));
        }
    }

    /** Promise 8: "IndexOutOfBounds", also where there is no such word. */
    private static void wordInNoContext(int scene) {
        for (int none : NO_CONTEXTS) {
            for (int i : new int[] {0, -1, 52}) {
                refused("8: word(" + none + ", " + i + ")", BOUNDS, scene, x -> x.word(none, i));
            }
        }
    }

    /** Promise 8: "IllegalState: it is not KEYED or SET", also where there is no such word. */
    private static void wordWithoutKey(int scene) {
        for (int i : new int[] {0, -1, 43, 44, 52, Integer.MIN_VALUE, Integer.MAX_VALUE}) {
            if (scene < Scene.KEYED) {
                refused("8: word(0, " + i + ")", STATE, scene, x -> x.word(0, i));
            }
        }
    }

    /** Promise 9: "IndexOutOfBounds: place is not 0 .. 63." */
    private static void putInNoPlace(int scene) {
        for (int none : NO_PLACES) {
            refused("9: put(" + none + ")", BOUNDS, scene, x -> x.put(none, 77));
        }
    }

    /** Promise 10: "IndexOutOfBounds: place is not 0 .. 63." */
    private static void getFromNoPlace(int scene) {
        for (int none : NO_PLACES) {
            refused("10: get(" + none + ")", BOUNDS, scene, x -> x.get(none));
        }
    }

    /** Promise 11: "there is no such context", before all that feed refuses for state or argument. */
    private static void feedInNoContext(int scene) {
        for (int none : NO_CONTEXTS) {
            for (int many : new int[] {8, 7, 0, -1, 65}) {
                refused("11: feed(" + none + ", 0, " + many + ")", BOUNDS, scene, x -> x.feed(none, false, 0, many));
            }
        }
    }

    /** Promise 11: "not all bytes from .. from + many - 1 are in the buffer (many below 0, too)", before the rest. */
    private static void feedOutsideTheBuffer(int scene) {
        for (int[] span : NOT_IN_BUFFER) {
            String called = "11: feed(0, " + span[0] + ", " + span[1] + ")";
            refused(called, BOUNDS, scene, x -> x.feed(0, false, span[0], span[1]));
            refused(called + " back", BOUNDS, scene, x -> x.feed(0, true, span[0], span[1]));
        }
        // No multiple of 8 either, so that modes 0 and 1 list two exceptions.
        refused("11: feed(0, 60, 7)", BOUNDS, scene, x -> x.feed(0, false, 60, 7));
        refused("11: feed(0, 0, -7)", BOUNDS, scene, x -> x.feed(0, true, 0, -7));
    }

    /** Promise 11: "IllegalState: it is not SET", before "many is no multiple of 8". */
    private static void feedWhenNotSet(int scene) {
        if (scene <= Scene.KEYED) {
            feedRefused(scene);
        }
    }

    /** Promise 11: "IllegalState: it is .. SET .. to mode 5", before "many is no multiple of 8". */
    private static void feedInMode5(int scene) {
        if (scene == Scene.set(5)) {
            feedRefused(scene);
        }
    }

    private static void feedRefused(int scene) {
        for (int many : new int[] {0, 1, 7, 8, 64}) {
            refused("11: feed(0, 0, " + many + ")", STATE, scene, x -> x.feed(0, false, 0, many));
            refused("11: feed(0, 0, " + many + ") back", STATE, scene, x -> x.feed(0, true, 0, many));
        }
    }

    /** Promise 11: "IllegalArgument: mode 0 or 1, and many is no multiple of 8." */
    private static void feedBrokenBlocks(int scene) {
        boolean wholeBlocks = scene == Scene.set(0) || scene == Scene.set(1);
        for (int many = 1; wholeBlocks && many < 64; many++) {
            int count = many;
            if (many % 8 != 0) {
                refused("11: feed(0, 0, " + many + ")", ARGUMENT, scene, x -> x.feed(0, false, 0, count));
                refused("11: feed(0, .., " + many + ") back", ARGUMENT, scene, x -> x.feed(0, true, 64 - count, count));
            }
        }
    }

    /** Promise 12: "IndexOutOfBounds". */
    private static void seekInNoContext(int scene) {
        for (int none : NO_CONTEXTS) {
            refused("12: seek(" + none + ")", BOUNDS, scene, x -> x.seek(none, 1));
        }
    }

    /** Promise 12: "IllegalState: it is not SET to mode 4." */
    private static void seekOutsideMode4(int scene) {
        for (long blocks : new long[] {0, 1, -1}) {
            if (scene != Scene.set(4)) {
                refused("12: seek(0, " + blocks + ")", STATE, scene, x -> x.seek(0, blocks));
            }
        }
    }

    /** Promise 13: "there is no such context", before "it is not SET to mode 5". */
    private static void takeInNoContext(int scene) {
        for (int none : NO_CONTEXTS) {
            for (int many : new int[] {8, 0, -1, 65}) {
                refused("13: take(" + none + ", 0, " + many + ")", BOUNDS, scene, x -> x.take(none, 0, many));
            }
        }
    }

    /** Promise 13: "not all bytes from .. from + many - 1 are in the buffer (many below 0, too)", before the rest. */
    private static void takeOutsideTheBuffer(int scene) {
        for (int[] span : NOT_IN_BUFFER) {
            String called = "13: take(0, " + span[0] + ", " + span[1] + ")";
            refused(called, BOUNDS, scene, x -> x.take(0, span[0], span[1]));
        }
    }

    /** Promise 13: "IllegalState: it is not SET to mode 5." */
    private static void takeOutsideMode5(int scene) {
        for (int many : new int[] {0, 1, 8, 64}) {
            if (scene != Scene.set(5)) {
                refused("13: take(0, 0, " + many + ")", STATE, scene, x -> x.take(0, 0, many));
            }
        }
    }

    /** Promise 14: "IndexOutOfBounds". */
    private static void tagInNoContext(int scene) {
        for (int none : NO_CONTEXTS) {
            refused("14: tag(" + none + ")", BOUNDS, scene, x -> x.tag(none));
        }
    }

    /** Promise 14: "IllegalState: it is not SET to mode 5." */
    private static void tagOutsideMode5(int scene) {
        if (scene != Scene.set(5)) {
            refused("14: tag(0)", STATE, scene, x -> x.tag(0));
        }
    }
}
