/** Promises 1 to 6: a new object, choose, key, mode, free, stage. What they refuse is in RefusalTest. */
final class ContextTest {
    private static final int[] WORD_COUNTS = {26, 4, 27, 44, 52};

    public static void main(String[] args) {
        newContextsAreFree();
        newBufferIsZero();
        objectsShareNothing();
        choosesEveryCipherInEveryContext();
        choosesAgainWhenFreed();
        keysWhenChosen();
        keysWhenKeyed();
        keysWhenSet();
        keyLeavesNoTraceOfTheOneBefore();
        keysAtTheEnds();
        setsWhenKeyed();
        setsWhenSet();
        setFeedsNothingYet();
        setTakesNothingInYet();
        startsAtTheEnds();
        freesInEveryStage();
        freedContextForgets();
        freeLeavesTheRest();
        stageTellsAllFour();
        stageChangesNothing();
        contextsLiveSideBySide();
        Check.end();
    }

    /** Promise 1: "All contexts are FREE". */
    private static void newContextsAreFree() {
        RuleCiphers cabinet = new RuleCiphers();
        for (int context = 0; context < 4; context++) {
            Check.same("1: stage of context " + context, RuleCiphers.FREE, cabinet.stage(context));
        }
    }

    /** Promise 1: "the buffer is all 0". */
    private static void newBufferIsZero() {
        RuleCiphers cabinet = new RuleCiphers();
        for (int place = 0; place < 64; place++) {
            Check.same("1: byte " + place, 0, cabinet.get(place));
        }
    }

    private static void objectsShareNothing() {
        RuleCiphers used = new RuleCiphers();
        Scene.play(used, Scene.set(4));
        RuleCiphers other = new RuleCiphers();
        for (int context = 0; context < 4; context++) {
            Check.same("1: a second object's context " + context, RuleCiphers.FREE, other.stage(context));
        }
        for (int place = 0; place < 64; place++) {
            Check.same("1: a second object's byte " + place, 0, other.get(place));
        }
        Twins.unchanged("1: making an object", 0, x -> Scene.play(x, Scene.set(4)), x -> new RuleCiphers().get(63));
    }

    /** Promise 2: "A FREE context is CHOSEN", from the first cipher and context to the last. */
    private static void choosesEveryCipherInEveryContext() {
        for (int context = 0; context < 4; context++) {
            for (int cipher = 0; cipher < 5; cipher++) {
                RuleCiphers cabinet = new RuleCiphers();
                cabinet.choose(context, cipher);
                for (int other = 0; other < 4; other++) {
                    int due = other == context ? RuleCiphers.CHOSEN : RuleCiphers.FREE;
                    Check.same("2: stage of " + other + " when " + context + " was chosen", due, cabinet.stage(other));
                }
                cabinet.key(context, 0, 0);
                wordCount("2: choose(" + context + ", " + cipher + ")", cabinet, context, cipher);
            }
        }
    }

    /** With a key of zeros no cipher's last word looks like NONE. */
    private static void wordCount(String what, RuleCiphers cabinet, int context, int cipher) {
        int count = WORD_COUNTS[cipher];
        Check.same(what + ", no word more", RuleCiphers.NONE, cabinet.word(context, count));
        Check.same(what + ", no word less", 0, cabinet.word(context, count - 1) == RuleCiphers.NONE ? 1 : 0);
    }

    private static void choosesAgainWhenFreed() {
        RuleCiphers cabinet = new RuleCiphers();
        for (int cipher = 4; cipher >= 0; cipher--) {
            cabinet.choose(2, cipher);
            cabinet.key(2, 0, 0);
            wordCount("2: chosen again", cabinet, 2, cipher);
            cabinet.free(2);
        }
    }

    /** Promise 3: "A context that is not FREE is KEYED": a CHOSEN one. */
    private static void keysWhenChosen() {
        RuleCiphers cabinet = new RuleCiphers();
        cabinet.choose(2, 1);
        cabinet.key(2, Cabinet.FIRST, Cabinet.SECOND);
        Check.same("3: stage after key", RuleCiphers.KEYED, cabinet.stage(2));
        int[] due = {0x01234567, 0x89abcdef, 0xfedcba98, 0x76543210};
        for (int i = 0; i < 4; i++) {
            Check.same("3: word " + i, due[i], cabinet.word(2, i));
        }
    }

    /** Promise 3: "A context that is not FREE is KEYED": a KEYED one. */
    private static void keysWhenKeyed() {
        RuleCiphers cabinet = Cabinet.keyed(2, 1, Cabinet.FIRST, Cabinet.SECOND);
        cabinet.key(2, 7, 9);
        Check.same("3: stage after another key", RuleCiphers.KEYED, cabinet.stage(2));
        int[] due = {0, 7, 0, 9};
        for (int i = 0; i < 4; i++) {
            Check.same("3: another key's word " + i, due[i], cabinet.word(2, i));
        }
    }

    /** Promise 3: "A context that is not FREE is KEYED": a SET one, whose mode is gone then. */
    private static void keysWhenSet() {
        for (int mode = 0; mode < 6; mode++) {
            RuleCiphers cabinet = new RuleCiphers();
            Scene.play(cabinet, Scene.set(mode));
            cabinet.key(0, 7, 9);
            Check.same("3: key takes mode " + mode + " away", RuleCiphers.KEYED, cabinet.stage(0));
            refusesModeCalls("3: keyed after mode " + mode, cabinet);
            long due = Cabinet.keyed(0, 3, 7, 9).block(0, false, 1);
            Check.same("3: the cipher stays, the key is the new one", due, cabinet.block(0, false, 1));
        }
    }

    private static void refusesModeCalls(String what, RuleCiphers cabinet) {
        Check.badState(what + ", feed", () -> cabinet.feed(0, false, 0, 8));
        Check.badState(what + ", seek", () -> cabinet.seek(0, 0));
        Check.badState(what + ", take", () -> cabinet.take(0, 0, 8));
        Check.badState(what + ", tag", () -> cabinet.tag(0));
    }

    private static void keyLeavesNoTraceOfTheOneBefore() {
        for (int cipher = 0; cipher < 5; cipher++) {
            RuleCiphers fresh = Cabinet.keyed(0, cipher, 5, 6);
            RuleCiphers used = Cabinet.keyed(0, cipher, -3, 12345678901L);
            used.block(0, false, 99);
            used.key(0, 5, 6);
            for (int i = 0; i < 52; i++) {
                Check.same("3: word " + i + " of cipher " + cipher, fresh.word(0, i), used.word(0, i));
            }
            Check.same("3: block on", fresh.block(0, false, 77), used.block(0, false, 77));
            Check.same("3: block back", fresh.block(0, true, 77), used.block(0, true, 77));
        }
    }

    /** Every long is half a key, the least and the greatest, too. */
    private static void keysAtTheEnds() {
        long[] ends = {0, -1, 1, Long.MIN_VALUE, Long.MAX_VALUE};
        for (long first : ends) {
            for (long second : ends) {
                RuleCiphers cabinet = Cabinet.keyed(3, 1, first, second);
                Check.same("3: word 0", (int) (first >> 32), cabinet.word(3, 0));
                Check.same("3: word 1", (int) first, cabinet.word(3, 1));
                Check.same("3: word 2", (int) (second >> 32), cabinet.word(3, 2));
                Check.same("3: word 3", (int) second, cabinet.word(3, 3));
            }
        }
    }

    /** Promise 4: "A KEYED or SET context is SET": a KEYED one, from the first mode to the last. */
    private static void setsWhenKeyed() {
        for (int mode = 0; mode < 6; mode++) {
            RuleCiphers cabinet = Cabinet.keyed(1, 0, 1, 2);
            cabinet.mode(1, mode, -1);
            Check.same("4: stage after mode " + mode, RuleCiphers.SET, cabinet.stage(1));
            isInMode("4: mode " + mode, cabinet, 1, mode);
        }
    }

    /** Promise 4: "A KEYED or SET context is SET": a SET one, from every mode to every mode. */
    private static void setsWhenSet() {
        for (int before = 0; before < 6; before++) {
            for (int mode = 0; mode < 6; mode++) {
                RuleCiphers cabinet = new RuleCiphers();
                Scene.play(cabinet, Scene.set(before));
                cabinet.mode(0, mode, 4);
                String what = "4: mode " + mode + " after mode " + before;
                Check.same(what, RuleCiphers.SET, cabinet.stage(0));
                isInMode(what, cabinet, 0, mode);
                long due = Cabinet.keyed(0, 3, Cabinet.FIRST, Cabinet.SECOND).block(0, false, 1);
                Check.same(what + ", the key stays", due, cabinet.block(0, false, 1));
            }
        }
    }

    /** Which calls answer tells the modes apart, but for 0 from 1 and 2 from 3. */
    private static void isInMode(String what, RuleCiphers cabinet, int context, int mode) {
        String state = "IllegalStateException";
        String bytes = mode < 2 ? "IllegalArgumentException" : "1";
        Check.same(what + ", feed", mode == 5 ? state : bytes,
                Check.outcome(() -> cabinet.feed(context, false, 0, 1)));
        Check.same(what + ", take", mode == 5 ? "1" : state, Check.outcome(() -> cabinet.take(context, 0, 1)));
        Check.same(what + ", seek", mode == 4 ? "0" : state, Check.outcome(() -> {
            cabinet.seek(context, 0);
            return 0;
        }));
    }

    /** Promise 4: "nothing is fed": the count, W and n begin anew. */
    private static void setFeedsNothingYet() {
        for (int before = 0; before < 6; before++) {
            for (int mode = 0; mode < 5; mode++) {
                RuleCiphers used = new RuleCiphers();
                Scene.play(used, Scene.set(before));
                RuleCiphers fresh = new RuleCiphers();
                Scene.play(fresh, Scene.KEYED);
                used.mode(0, mode, 8);
                fresh.mode(0, mode, 8);
                String what = "4: mode " + mode + " after " + before;
                Check.same(what + ", nothing fed", 0, used.feed(0, false, 0, 0));
                Cabinet.fill(used);
                Cabinet.fill(fresh);
                Check.same(what + ", fed", fresh.feed(0, false, 0, 24), used.feed(0, false, 0, 24));
                Check.same(what + ", bytes", Cabinet.buffer(fresh), Cabinet.buffer(used));
            }
        }
    }

    /** Promise 4: "nothing is .. taken in". */
    private static void setTakesNothingInYet() {
        RuleCiphers fresh = new RuleCiphers();
        Scene.play(fresh, Scene.KEYED);
        fresh.mode(0, 5, 0);
        long ofNothing = fresh.tag(0);
        for (int before = 0; before < 6; before++) {
            RuleCiphers used = new RuleCiphers();
            Scene.play(used, Scene.set(before));
            used.mode(0, 5, 0);
            Check.same("4: nothing taken in after mode " + before, 0, used.take(0, 0, 0));
            Check.same("4: the tag of nothing after mode " + before, ofNothing, used.tag(0));
        }
    }

    /** Every long is a start, the least and the greatest, too: V is W at first. */
    private static void startsAtTheEnds() {
        for (long start : new long[] {0, -1, 1, Long.MIN_VALUE, Long.MAX_VALUE}) {
            long stream = Cabinet.on(2, start);
            for (int mode = 1; mode < 5; mode++) {
                RuleCiphers cabinet = Cabinet.set(0, 2, mode, start);
                cabinet.feed(0, false, 0, 8);
                int due = Cabinet.byteOf(stream, 0);
                Check.same("4: start " + start + " of mode " + mode, due, cabinet.get(0));
            }
        }
    }

    /** Promise 5: "It is FREE", whatever it was. */
    private static void freesInEveryStage() {
        for (int scene = 0; scene < Scene.COUNT; scene++) {
            RuleCiphers cabinet = new RuleCiphers();
            Scene.play(cabinet, scene);
            cabinet.free(0);
            String what = "5: freed when " + Scene.name(scene);
            Check.same(what, RuleCiphers.FREE, cabinet.stage(0));
            Check.badState(what + ", key", () -> cabinet.key(0, 1, 1));
            Check.badState(what + ", mode", () -> cabinet.mode(0, 0, 0));
            Check.badState(what + ", block", () -> cabinet.block(0, false, 0));
            Check.badState(what + ", word", () -> cabinet.word(0, 0));
            refusesModeCalls(what, cabinet);
        }
    }

    /** Chosen again, a freed context has neither its key nor its mode. */
    private static void freedContextForgets() {
        for (int mode = 0; mode < 6; mode++) {
            RuleCiphers cabinet = new RuleCiphers();
            Scene.play(cabinet, Scene.set(mode));
            cabinet.free(0);
            cabinet.choose(0, 3);
            String what = "5: chosen after free in mode " + mode;
            Check.same(what, RuleCiphers.CHOSEN, cabinet.stage(0));
            Check.badState(what + ", block", () -> cabinet.block(0, false, 0));
            Check.badState(what + ", word", () -> cabinet.word(0, 0));
            refusesModeCalls(what, cabinet);
            cabinet.key(0, 1, 1);
            refusesModeCalls(what + " and keyed", cabinet);
        }
    }

    private static void freeLeavesTheRest() {
        Twins.unchanged("5: free of a free context", 0, x -> Scene.play(x, Scene.FREE), x -> {
            x.free(0);
            return 0;
        });
        Twins.unchanged("5: free of another context", 0, x -> Scene.play(x, Scene.FREE), x -> {
            x.choose(0, 2);
            x.key(0, 5, 6);
            x.mode(0, 4, 7);
            x.free(0);
            return 0;
        });
    }

    /** Promise 6: "FREE .. SET". */
    private static void stageTellsAllFour() {
        for (int context = 0; context < 4; context++) {
            RuleCiphers cabinet = new RuleCiphers();
            Check.same("6: free", RuleCiphers.FREE, cabinet.stage(context));
            cabinet.choose(context, 0);
            Check.same("6: chosen", RuleCiphers.CHOSEN, cabinet.stage(context));
            cabinet.key(context, 0, 0);
            Check.same("6: keyed", RuleCiphers.KEYED, cabinet.stage(context));
            cabinet.mode(context, 0, 0);
            Check.same("6: set", RuleCiphers.SET, cabinet.stage(context));
        }
    }

    private static void stageChangesNothing() {
        for (int scene = 0; scene < Scene.COUNT; scene++) {
            int here = scene;
            Twins.unchanged("6: stage when " + Scene.name(scene), Math.min(scene, 3), x -> Scene.play(x, here),
                    x -> x.stage(0));
        }
    }

    /** "There are CONTEXTS 0 .. 3": each has a cipher, a key, a mode and counts of its own. */
    private static void contextsLiveSideBySide() {
        RuleCiphers cabinet = new RuleCiphers();
        for (int context = 0; context < 4; context++) {
            cabinet.choose(context, 2);
            cabinet.key(context, context, 1);
        }
        for (int context = 0; context < 4; context++) {
            long due = Cabinet.keyed(0, 2, context, 1).block(0, false, 5);
            Check.same("6: the key of context " + context, due, cabinet.block(context, false, 5));
        }
        for (int context = 0; context < 4; context++) {
            cabinet.mode(context, 4, context);
            Check.same("6: the count of context " + context, context + 1, cabinet.feed(context, false, 0, context + 1));
        }
        for (int context = 0; context < 4; context++) {
            Cabinet.putBlock(cabinet, 0, 0);
            Check.same("6: it goes on where it was", 8, cabinet.feed(context, false, context + 1, 7 - context));
            int due = Cabinet.byteOf(cabinet.block(context, false, context), 7);
            Check.same("6: its last byte", due, cabinet.get(7));
        }
    }
}
