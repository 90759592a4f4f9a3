/** Promises 1 to 6: a new object, choose, key, mode, free, stage. */
final class ContextTest {
    public static void main(String[] args) {
        newObject();
        choose();
        chooseWrongly();
        key();
        keyWrongly();
        mode();
        modeWrongly();
        modeStartsAnew();
        free();
        stageWrongly();
        sideBySide();
        Check.end();
    }

    private static void newObject() {
        RuleCiphers cabinet = new RuleCiphers();
        for (int context = 0; context < 4; context++) {
            Check.same("1: stage of a new context", RuleCiphers.FREE, cabinet.stage(context));
        }
        for (int place = 0; place < 64; place++) {
            Check.same("1: byte of a new buffer", 0, cabinet.get(place));
        }
        Cabinet.fill(cabinet);
        cabinet.choose(0, 0);
        RuleCiphers other = new RuleCiphers();
        Check.same("1: a second object's context", RuleCiphers.FREE, other.stage(0));
        Check.same("1: a second object's buffer", 0, other.get(0));
    }

    private static void choose() {
        for (int context = 0; context < 4; context++) {
            for (int cipher = 0; cipher < 5; cipher++) {
                RuleCiphers cabinet = new RuleCiphers();
                cabinet.choose(context, cipher);
                for (int other = 0; other < 4; other++) {
                    int due = other == context ? RuleCiphers.CHOSEN : RuleCiphers.FREE;
                    Check.same("2: stage after choose", due, cabinet.stage(other));
                }
            }
        }
    }

    private static void chooseWrongly() {
        RuleCiphers cabinet = new RuleCiphers();
        for (int none : Cabinet.NO_CONTEXTS) {
            Check.outOfBounds("2: no such context", () -> cabinet.choose(none, 0));
            Check.outOfBounds("2: no such context comes before no such cipher", () -> cabinet.choose(none, 5));
        }
        for (int none : new int[] {-1, 5, Integer.MIN_VALUE, Integer.MAX_VALUE}) {
            Check.badArgument("2: no such cipher", () -> cabinet.choose(0, none));
        }
        Check.same("2: a call that threw", RuleCiphers.FREE, cabinet.stage(0));
        cabinet.choose(0, 3);
        Check.badArgument("2: no such cipher comes before not free", () -> cabinet.choose(0, 5));
        Check.badState("2: chosen already", () -> cabinet.choose(0, 2));
        cabinet.key(0, 1, 2);
        Check.badState("2: keyed already", () -> cabinet.choose(0, 2));
        Check.same("2: still keyed", RuleCiphers.KEYED, cabinet.stage(0));
        cabinet.mode(0, 0, 0);
        Check.badState("2: set already", () -> cabinet.choose(0, 2));
        Check.same("2: still set", RuleCiphers.SET, cabinet.stage(0));
        Check.same("2: still cipher 3, of 44 words", RuleCiphers.NONE, cabinet.word(0, 44));
        Check.same("2: word 3 is the key's first quarter", 0, cabinet.word(0, 3));
        Check.same("2: word 2 is the key's second quarter", 1, cabinet.word(0, 2));
    }

    private static void key() {
        RuleCiphers cabinet = new RuleCiphers();
        cabinet.choose(2, 1);
        cabinet.key(2, Cabinet.FIRST, Cabinet.SECOND);
        Check.same("3: stage after key", RuleCiphers.KEYED, cabinet.stage(2));
        Check.same("3: word 0", 0x01234567, cabinet.word(2, 0));
        Check.same("3: word 1", 0x89abcdef, cabinet.word(2, 1));
        Check.same("3: word 2", 0xfedcba98, cabinet.word(2, 2));
        Check.same("3: word 3", 0x76543210, cabinet.word(2, 3));
        cabinet.key(2, 7, 9);
        Check.same("3: stage after another key", RuleCiphers.KEYED, cabinet.stage(2));
        Check.same("3: another key's word 1", 7, cabinet.word(2, 1));
        Check.same("3: another key's word 3", 9, cabinet.word(2, 3));
        cabinet.mode(2, 4, 0);
        cabinet.key(2, 1, 2);
        Check.same("3: key takes a SET context back", RuleCiphers.KEYED, cabinet.stage(2));
        Check.badState("3: no mode after key", () -> cabinet.feed(2, false, 0, 8));
        Check.badState("3: no seek after key", () -> cabinet.seek(2, 0));
        keyingAgainLeavesNoTrace();
    }

    private static void keyingAgainLeavesNoTrace() {
        for (int cipher = 0; cipher < 5; cipher++) {
            RuleCiphers fresh = Cabinet.keyed(0, cipher, 5, 6);
            RuleCiphers used = Cabinet.keyed(0, cipher, -3, 12345678901L);
            used.block(0, false, 99);
            used.key(0, 5, 6);
            for (int i = 0; i < 52; i++) {
                Check.same("3: word " + i + " of cipher " + cipher, fresh.word(0, i), used.word(0, i));
            }
            Check.same("3: block on", fresh.block(0, false, 77), used.block(0, false, 77));
            Check.same("3: block back", fresh.block(0, true, 77), used.block(0, true, 77));
        }
    }

    private static void keyWrongly() {
        RuleCiphers cabinet = new RuleCiphers();
        for (int none : Cabinet.NO_CONTEXTS) {
            Check.outOfBounds("3: no such context", () -> cabinet.key(none, 0, 0));
        }
        Check.badState("3: a free context", () -> cabinet.key(0, 0, 0));
        Check.same("3: still free", RuleCiphers.FREE, cabinet.stage(0));
    }

    private static void mode() {
        for (int mode = 0; mode < 6; mode++) {
            RuleCiphers cabinet = Cabinet.keyed(1, 0, 1, 2);
            cabinet.mode(1, mode, -1);
            Check.same("4: stage after mode", RuleCiphers.SET, cabinet.stage(1));
            cabinet.mode(1, 5 - mode, 0);
            Check.same("4: stage after another mode", RuleCiphers.SET, cabinet.stage(1));
        }
    }

    private static void modeWrongly() {
        RuleCiphers cabinet = new RuleCiphers();
        for (int none : Cabinet.NO_CONTEXTS) {
            Check.outOfBounds("4: no such context", () -> cabinet.mode(none, 0, 0));
            Check.outOfBounds("4: no such context comes before no such mode", () -> cabinet.mode(none, 6, 0));
        }
        for (int none : new int[] {-1, 6, Integer.MIN_VALUE, Integer.MAX_VALUE}) {
            Check.badArgument("4: no such mode comes before not keyed", () -> cabinet.mode(0, none, 0));
        }
        Check.badState("4: a free context", () -> cabinet.mode(0, 0, 0));
        cabinet.choose(0, 0);
        Check.badState("4: a chosen context", () -> cabinet.mode(0, 0, 0));
        Check.same("4: still chosen", RuleCiphers.CHOSEN, cabinet.stage(0));
        cabinet.key(0, 1, 2);
        Check.badArgument("4: no such mode for a keyed context", () -> cabinet.mode(0, 6, 0));
        Check.same("4: still keyed", RuleCiphers.KEYED, cabinet.stage(0));
        cabinet.mode(0, 4, 0);
        cabinet.feed(0, false, 0, 3);
        Check.badArgument("4: no such mode for a set context", () -> cabinet.mode(0, -1, 0));
        Check.same("4: a call that threw leaves what was fed", 4, cabinet.feed(0, false, 0, 1));
    }

    private static void modeStartsAnew() {
        RuleCiphers cabinet = Cabinet.set(0, 2, 3, 8);
        Check.same("4: fed", 5, cabinet.feed(0, false, 0, 5));
        cabinet.mode(0, 3, 8);
        Check.same("4: nothing is fed after mode", 0, cabinet.feed(0, false, 0, 0));
        long stream = cabinet.block(0, false, 8);
        cabinet.put(0, 0);
        cabinet.feed(0, false, 0, 1);
        Check.same("4: the stream begins anew", Cabinet.byteOf(stream, 0), cabinet.get(0));
        cabinet.mode(0, 5, 0);
        long emptyTag = cabinet.tag(0);
        Check.same("4: taken in", 3, cabinet.take(0, 0, 3));
        cabinet.mode(0, 5, 0);
        Check.same("4: nothing is taken in after mode", 0, cabinet.take(0, 0, 0));
        Check.same("4: the tag of nothing", emptyTag, cabinet.tag(0));
    }

    private static void free() {
        RuleCiphers cabinet = new RuleCiphers();
        for (int none : Cabinet.NO_CONTEXTS) {
            Check.outOfBounds("5: no such context", () -> cabinet.free(none));
        }
        cabinet.free(3);
        Check.same("5: free when free", RuleCiphers.FREE, cabinet.stage(3));
        cabinet.choose(3, 4);
        cabinet.free(3);
        Check.same("5: free when chosen", RuleCiphers.FREE, cabinet.stage(3));
        Check.badState("5: no key for it", () -> cabinet.key(3, 0, 0));
        cabinet.choose(3, 0);
        cabinet.key(3, 1, 1);
        cabinet.free(3);
        Check.same("5: free when keyed", RuleCiphers.FREE, cabinet.stage(3));
        Check.badState("5: no block of it", () -> cabinet.block(3, false, 0));
        cabinet.choose(3, 1);
        Check.badState("5: the old key is gone", () -> cabinet.word(3, 0));
        cabinet.key(3, 1, 1);
        cabinet.mode(3, 5, 1);
        cabinet.put(9, 99);
        cabinet.free(3);
        Check.same("5: free when set", RuleCiphers.FREE, cabinet.stage(3));
        Check.badState("5: no tag of it", () -> cabinet.tag(3));
        Check.same("5: the buffer stays", 99, cabinet.get(9));
    }

    private static void stageWrongly() {
        RuleCiphers cabinet = new RuleCiphers();
        for (int none : Cabinet.NO_CONTEXTS) {
            Check.outOfBounds("6: no such context", () -> cabinet.stage(none));
        }
    }

    private static void sideBySide() {
        RuleCiphers cabinet = new RuleCiphers();
        for (int context = 0; context < 4; context++) {
            cabinet.choose(context, 2);
            cabinet.key(context, context, 1);
        }
        for (int context = 0; context < 4; context++) {
            RuleCiphers alone = Cabinet.keyed(0, 2, context, 1);
            long due = alone.block(0, false, 5);
            Check.same("6: each context has a key of its own", due, cabinet.block(context, false, 5));
        }
        cabinet.mode(0, 4, 0);
        cabinet.mode(1, 5, 0);
        cabinet.free(2);
        int[] stages = {RuleCiphers.SET, RuleCiphers.SET, RuleCiphers.FREE, RuleCiphers.KEYED};
        for (int context = 0; context < 4; context++) {
            Check.same("6: each context has a stage of its own", stages[context], cabinet.stage(context));
        }
        cabinet.mode(3, 4, 0);
        cabinet.feed(0, false, 0, 5);
        Check.same("6: each context counts for itself", 2, cabinet.feed(3, false, 0, 2));
        Check.same("6: and goes on where it was", 8, cabinet.feed(0, false, 0, 3));
    }
}
