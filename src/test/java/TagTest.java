/** Promises 13 and 14: take and tag. What is due is made of block() alone. */
final class TagTest {
    public static void main(String[] args) {
        for (int cipher = 0; cipher < 5; cipher++) {
            everyLength(cipher);
            bothDoublings(cipher);
        }
        inPieces();
        startIsNotUsed();
        bytesAreTakenAsTheyAre();
        countsFromTheTagOn();
        longRun();
        takeOutOfBuffer();
        emptyTakes();
        wrongStates();
        Check.end();
    }

    private static RuleCiphers filled(int cipher) {
        RuleCiphers cabinet = Cabinet.set(3, cipher, 5, 17);
        Cabinet.fill(cabinet);
        return cabinet;
    }

    private static long doubled(long z) {
        return z < 0 ? z * 2 ^ 27 : z * 2;
    }

    /** The tag of the first many bytes of the buffer, by the document's words. */
    private static long due(RuleCiphers cabinet, int many) {
        long z1 = doubled(cabinet.block(3, false, 0));
        long z2 = doubled(z1);
        int blocks = many == 0 ? 1 : (many + 7) / 8;
        long t = 0;
        for (int b = 0; b < blocks; b++) {
            long block = 0;
            for (int i = 8 * b; i < 8 * b + 8; i++) {
                int padding = i == many ? 128 : 0;
                block = block << 8 | (i < many ? cabinet.get(i) : padding);
            }
            if (b == blocks - 1) {
                block ^= many == 8 * blocks ? z1 : z2;
            }
            t = cabinet.block(3, false, t ^ block);
        }
        return t;
    }

    private static void everyLength(int cipher) {
        RuleCiphers cabinet = filled(cipher);
        for (int many = 0; many <= 64; many++) {
            Check.same("13: taken in", many, cabinet.take(3, 0, many));
            Check.same("14: cipher " + cipher + ", " + many + " bytes", due(cabinet, many), cabinet.tag(3));
        }
    }

    /** Keys for which Z, and Z1, have bit 63 and have it not. */
    private static void bothDoublings(int cipher) {
        int seen = 0;
        for (int key = 0; key < 40; key++) {
            RuleCiphers cabinet = Cabinet.keyed(3, cipher, key, 1000 - key);
            long z = cabinet.block(3, false, 0);
            seen |= 1 << (z < 0 ? 2 : 0) + (z << 1 < 0 ? 1 : 0);
            cabinet.mode(3, 5, 0);
            Check.same("14: of nothing", due(cabinet, 0), cabinet.tag(3));
            cabinet.take(3, 0, 8);
            Check.same("14: of a block", due(cabinet, 8), cabinet.tag(3));
        }
        Check.same("14: all four kinds of Z were met", 15, seen);
    }

    private static void inPieces() {
        for (int cut = 0; cut <= 40; cut++) {
            RuleCiphers cabinet = filled(1);
            int first = cut / 2;
            Check.same("13: first piece", first, cabinet.take(3, 0, first));
            Check.same("13: second piece", cut, cabinet.take(3, first, cut - first));
            Check.same("13: third piece", 40, cabinet.take(3, cut, 40 - cut));
            Check.same("14: in pieces", due(cabinet, 40), cabinet.tag(3));
        }
    }

    private static void startIsNotUsed() {
        RuleCiphers one = Cabinet.set(3, 0, 5, 0);
        RuleCiphers two = Cabinet.set(3, 0, 5, -1);
        one.take(3, 0, 20);
        two.take(3, 0, 20);
        Check.same("14: V is not used", one.tag(3), two.tag(3));
    }

    private static void bytesAreTakenAsTheyAre() {
        RuleCiphers cabinet = filled(2);
        String before = Cabinet.buffer(cabinet);
        long due = due(cabinet, 11);
        cabinet.take(3, 0, 11);
        Check.same("13: the buffer stays", before, Cabinet.buffer(cabinet));
        cabinet.put(0, 200);
        cabinet.put(10, 201);
        Check.same("13: later puts change nothing taken", due, cabinet.tag(3));
        Check.same("14: the buffer holds the puts", 200, cabinet.get(0));
    }

    private static void countsFromTheTagOn() {
        RuleCiphers cabinet = filled(4);
        Check.same("13: first", 10, cabinet.take(3, 5, 10));
        Check.same("13: then", 13, cabinet.take(3, 61, 3));
        cabinet.block(3, true, 5);
        cabinet.tag(3);
        Check.same("13: after a tag", 2, cabinet.take(3, 0, 2));
        Check.same("14: only what came after the tag before", due(cabinet, 2), cabinet.tag(3));
        Check.same("14: then nothing is taken in", due(cabinet, 0), cabinet.tag(3));
        Check.same("14: still SET", RuleCiphers.SET, cabinet.stage(3));
        cabinet.take(3, 0, 9);
        cabinet.mode(3, 5, 0);
        Check.same("13: after mode", 4, cabinet.take(3, 0, 4));
        Check.same("14: after mode", due(cabinet, 4), cabinet.tag(3));
    }

    private static void longRun() {
        RuleCiphers cabinet = filled(3);
        long t = 0;
        for (int call = 1; call <= 400; call++) {
            Check.same("13: taken in in all", 64 * call, cabinet.take(3, 0, 64));
        }
        for (int b = 0; b < 400 * 8 - 1; b++) {
            t = cabinet.block(3, false, t ^ Cabinet.blockAt(cabinet, 8 * (b % 8)));
        }
        long last = Cabinet.blockAt(cabinet, 56) ^ doubled(cabinet.block(3, false, 0));
        Check.same("14: of 25600 bytes", cabinet.block(3, false, t ^ last), cabinet.tag(3));
    }

    private static void takeOutOfBuffer() {
        int[][] spans = {{1, 64}, {0, 65}, {64, 1}, {63, 2}, {-1, 1}, {-1, 3}, {0, -1}, {64, -1}, {-1, -1},
            {Integer.MAX_VALUE, 1}, {1, Integer.MAX_VALUE}, {Integer.MAX_VALUE, Integer.MAX_VALUE},
            {Integer.MIN_VALUE, Integer.MIN_VALUE}, {Integer.MIN_VALUE, 64}, {0, Integer.MIN_VALUE}, {-64, 128}};
        RuleCiphers cabinet = filled(0);
        cabinet.take(3, 0, 5);
        for (int[] span : spans) {
            Check.outOfBounds("13: not in the buffer", () -> cabinet.take(3, span[0], span[1]));
        }
        Check.same("13: a call that threw takes nothing in", 6, cabinet.take(3, 5, 1));
        Check.same("14: nor does the tag know of it", due(cabinet, 6), cabinet.tag(3));
        for (int none : Cabinet.NO_CONTEXTS) {
            Check.outOfBounds("13: no such context", () -> cabinet.take(none, 0, 1));
            Check.outOfBounds("14: no such context", () -> cabinet.tag(none));
        }
    }

    private static void emptyTakes() {
        RuleCiphers cabinet = filled(0);
        for (int from : new int[] {0, 63, 64}) {
            Check.same("13: no bytes", 0, cabinet.take(3, from, 0));
        }
        // No byte is named here, so none is outside the buffer.
        for (int from : new int[] {65, -1, Integer.MIN_VALUE, Integer.MAX_VALUE}) {
            Check.fine("13: no bytes from anywhere", () -> cabinet.take(3, from, 0));
        }
        cabinet.take(3, 0, 8);
        cabinet.take(3, 64, 0);
        Check.same("14: no bytes behind a whole block", due(cabinet, 8), cabinet.tag(3));
    }

    private static void wrongStates() {
        RuleCiphers cabinet = new RuleCiphers();
        stateRefused("free", cabinet);
        cabinet.choose(0, 0);
        stateRefused("chosen", cabinet);
        cabinet.key(0, 0, 0);
        stateRefused("keyed", cabinet);
        for (int mode = 0; mode < 5; mode++) {
            cabinet.mode(0, mode, 0);
            stateRefused("mode " + mode, cabinet);
        }
        cabinet.mode(0, 5, 0);
        cabinet.key(0, 0, 0);
        stateRefused("keyed again", cabinet);
    }

    private static void stateRefused(String what, RuleCiphers cabinet) {
        Check.badState("13: " + what, () -> cabinet.take(0, 0, 8));
        Check.badState("13: no bytes, " + what, () -> cabinet.take(0, 0, 0));
        Check.badState("14: " + what, () -> cabinet.tag(0));
        Check.outOfBounds("13: not in the buffer comes first, " + what, () -> cabinet.take(0, 60, 8));
    }
}
