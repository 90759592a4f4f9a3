import java.util.Arrays;

/**
 * Promises 13 and 14: take and tag. What is due is made of block() alone, on objects of their own; what they refuse is
 * in RefusalTest.
 */
final class TagTest {
    public static void main(String[] args) {
        for (int cipher = 0; cipher < 5; cipher++) {
            tagOfNothing(cipher);
            tagOfNoWholeBlock(cipher);
            tagOfWholeBlocks(cipher);
            tagOfEveryLength(cipher);
            bothDoublings(cipher);
        }
        lastBlockIsMarked();
        startIsNotUsed();
        inPieces();
        byteByByte();
        everySpan();
        nothingTaken();
        nothingTakenFromAnywhere();
        bytesAreTakenAsTheyAre();
        countsSinceTheModeWasSet();
        countsSinceATagWasTold();
        tagLeavesNothingTakenIn();
        tagLeavesTheRest();
        countsUpToTheLastCall();
        Check.end();
    }

    private static RuleCiphers filled(int cipher) {
        RuleCiphers cabinet = Cabinet.set(3, cipher, 5, 17);
        Cabinet.fill(cabinet);
        return cabinet;
    }

    private static int[] filling(int from, int many) {
        int[] bytes = new int[many];
        for (int i = 0; i < many; i++) {
            bytes[i] = Cabinet.filling(from + i);
        }
        return bytes;
    }

    private static long doubled(long z) {
        return z < 0 ? (z * 2) ^ 27 : z * 2;
    }

    /** The tag by the document's words, with the tests' own key. */
    private static long due(int cipher, int[] bytes) {
        int blocks = Math.max(1, (bytes.length + 7) / 8);
        boolean whole = bytes.length == 8 * blocks;
        int[] padded = Arrays.copyOf(bytes, 8 * blocks);
        if (!whole) {
            padded[bytes.length] = 128;
        }
        long z1 = doubled(Cabinet.on(cipher, 0));
        long t = 0;
        for (int b = 0; b < blocks; b++) {
            long block = 0;
            for (int i = 8 * b; i < 8 * b + 8; i++) {
                block = (block << 8) | padded[i];
            }
            long mask = whole ? z1 : doubled(z1);
            t = Cabinet.on(cipher, t ^ block ^ (b == blocks - 1 ? mask : 0));
        }
        return t;
    }

    /** "otherwise (if there are none, too) it gets a byte 128 and then zeros behind, and is ^ Z2." */
    private static void tagOfNothing(int cipher) {
        long z2 = doubled(doubled(Cabinet.on(cipher, 0)));
        long due = Cabinet.on(cipher, Long.MIN_VALUE ^ z2);
        RuleCiphers cabinet = filled(cipher);
        Check.same("14: of nothing", due, cabinet.tag(3));
        cabinet.take(3, 5, 0);
        Check.same("14: of no bytes taken in", due, cabinet.tag(3));
    }

    /** "otherwise .. it gets a byte 128 and then zeros behind": one to seven bytes, and no block before them. */
    private static void tagOfNoWholeBlock(int cipher) {
        long z2 = doubled(doubled(Cabinet.on(cipher, 0)));
        long padding = Long.MIN_VALUE;
        long bytes = 0;
        for (int many = 1; many < 8; many++) {
            padding >>>= 8;
            bytes |= (long) Cabinet.filling(many - 1) << (64 - 8 * many);
            RuleCiphers cabinet = filled(cipher);
            Check.same("13: taken in", many, cabinet.take(3, 0, many));
            Check.same("14: of " + many + " bytes", Cabinet.on(cipher, bytes ^ padding ^ z2), cabinet.tag(3));
        }
    }

    /** "the last one, if it has eight bytes, is ^ Z1": one block, and two. */
    private static void tagOfWholeBlocks(int cipher) {
        long z1 = doubled(Cabinet.on(cipher, 0));
        RuleCiphers cabinet = filled(cipher);
        long one = Cabinet.blockAt(cabinet, 0);
        long two = Cabinet.blockAt(cabinet, 8);
        cabinet.take(3, 0, 8);
        Check.same("14: of a block", Cabinet.on(cipher, one ^ z1), cabinet.tag(3));
        cabinet.take(3, 0, 16);
        long due = Cabinet.on(cipher, Cabinet.on(cipher, one) ^ two ^ z1);
        Check.same("14: of two blocks", due, cabinet.tag(3));
    }

    private static void tagOfEveryLength(int cipher) {
        RuleCiphers cabinet = filled(cipher);
        for (int many = 0; many <= 64; many++) {
            Check.same("13: taken in", many, cabinet.take(3, 0, many));
            Check.same("14: cipher " + cipher + ", " + many + " bytes", due(cipher, filling(0, many)), cabinet.tag(3));
        }
    }

    /** "Z1 be 2 * Z modulo 2^64, ^ 27 if Z had bit 63, Z2 be made so of Z1": Z and Z1 with bit 63, and without. */
    private static void bothDoublings(int cipher) {
        int seen = 0;
        for (int key = 0; key < 40; key++) {
            RuleCiphers cabinet = Cabinet.keyed(3, cipher, key, 1000 - key);
            long z = cabinet.block(3, false, 0);
            long z1 = doubled(z);
            seen |= 1 << ((z < 0 ? 2 : 0) + (z1 < 0 ? 1 : 0));
            cabinet.mode(3, 5, 0);
            long ofNothing = cabinet.block(3, false, Long.MIN_VALUE ^ doubled(z1));
            Check.same("14: of nothing, key " + key, ofNothing, cabinet.tag(3));
            cabinet.take(3, 0, 8);
            Check.same("14: of zeros, key " + key, cabinet.block(3, false, z1), cabinet.tag(3));
        }
        Check.same("14: all four kinds of Z were met", 15, seen);
    }

    /** A message that already ends as a shorter one's last block is filled up has another tag. */
    private static void lastBlockIsMarked() {
        RuleCiphers cabinet = Cabinet.set(3, 2, 5, 0);
        cabinet.put(3, 128);
        for (int many = 0; many <= 16; many++) {
            int[] bytes = new int[many];
            if (many > 3) {
                bytes[3] = 128;
            }
            cabinet.take(3, 0, many);
            Check.same("14: 0 0 0 128 0 .., " + many + " bytes", due(2, bytes), cabinet.tag(3));
        }
    }

    /** "The bytes, V not being used, are cut into blocks". */
    private static void startIsNotUsed() {
        for (long start : new long[] {0, 1, -1, Long.MIN_VALUE, Long.MAX_VALUE}) {
            RuleCiphers cabinet = Cabinet.set(3, 0, 5, start);
            Cabinet.fill(cabinet);
            cabinet.take(3, 0, 20);
            Check.same("14: start " + start, due(0, filling(0, 20)), cabinet.tag(3));
            Check.same("14: start " + start + ", nothing", due(0, new int[0]), cabinet.tag(3));
        }
    }

    private static void inPieces() {
        long due = due(1, filling(0, 40));
        for (int cut = 0; cut <= 40; cut++) {
            RuleCiphers cabinet = filled(1);
            int first = cut / 2;
            Check.same("13: first piece", first, cabinet.take(3, 0, first));
            Check.same("13: second piece", cut, cabinet.take(3, first, cut - first));
            Check.same("13: third piece", 40, cabinet.take(3, cut, 40 - cut));
            Check.same("14: in pieces", due, cabinet.tag(3));
        }
    }

    private static void byteByByte() {
        RuleCiphers cabinet = filled(4);
        for (int place = 0; place < 64; place++) {
            Check.same("13: byte by byte", place + 1, cabinet.take(3, place, 1));
        }
        Check.same("14: byte by byte", due(4, filling(0, 64)), cabinet.tag(3));
    }

    /** Every span in the buffer is taken in, up to its last byte and to the whole of it. */
    private static void everySpan() {
        for (int from = 0; from < 64; from++) {
            RuleCiphers cabinet = filled(1);
            for (int many = 1; many <= 64 - from; many++) {
                Check.same("13: take(" + from + ", " + many + ")", many, cabinet.take(3, from, many));
                Check.same("14: of them", due(1, filling(from, many)), cabinet.tag(3));
            }
        }
    }

    /** No bytes, from the buffer's first place to the one behind its last: all are in the buffer, nothing changes. */
    private static void nothingTaken() {
        for (int from : new int[] {0, 1, 63, 64}) {
            Twins.unchanged("13: no bytes from " + from, 13, x -> Scene.play(x, Scene.set(5)),
                    x -> x.take(0, from, 0));
        }
        // Behind a whole block no bytes are no sign that another one begins.
        RuleCiphers cabinet = filled(0);
        cabinet.take(3, 0, 8);
        Check.same("13: no bytes behind a whole block", 8, cabinet.take(3, 64, 0));
        Check.same("14: no bytes behind a whole block", due(0, filling(0, 8)), cabinet.tag(3));
    }

    /** Where many is 0, from .. from + many - 1 names no byte, so none is outside the buffer. */
    private static void nothingTakenFromAnywhere() {
        for (int from : new int[] {-1, 65, Integer.MIN_VALUE, Integer.MAX_VALUE}) {
            Twins.unchanged("13: no bytes from " + from, 13, x -> Scene.play(x, Scene.set(5)),
                    x -> x.take(0, from, 0));
        }
    }

    private static void bytesAreTakenAsTheyAre() {
        RuleCiphers cabinet = filled(2);
        String before = Cabinet.buffer(cabinet);
        cabinet.take(3, 0, 11);
        Check.same("13: the buffer stays", before, Cabinet.buffer(cabinet));
        cabinet.put(0, 200);
        cabinet.put(10, 201);
        Check.same("13: later puts change nothing taken in", due(2, filling(0, 11)), cabinet.tag(3));
        Check.same("14: the buffer holds the puts", 200, cabinet.get(0));
    }

    /** Promise 13: "how many were taken in since the mode was SET". */
    private static void countsSinceTheModeWasSet() {
        RuleCiphers cabinet = filled(4);
        Check.same("13: first", 10, cabinet.take(3, 5, 10));
        cabinet.block(3, true, 5);
        Check.same("13: then", 13, cabinet.take(3, 61, 3));
        Check.outOfBounds("13: beyond the buffer", () -> cabinet.take(3, 61, 4));
        Check.badState("13: a feed in mode 5", () -> cabinet.feed(3, false, 0, 8));
        Check.same("13: refused bytes are none", 14, cabinet.take(3, 0, 1));
        cabinet.mode(3, 5, 0);
        Check.same("13: after mode", 4, cabinet.take(3, 0, 4));
        Check.same("14: after mode", due(4, filling(0, 4)), cabinet.tag(3));
    }

    /** Promise 13: "or a tag was told". */
    private static void countsSinceATagWasTold() {
        RuleCiphers cabinet = filled(4);
        cabinet.take(3, 0, 10);
        cabinet.tag(3);
        Check.same("13: nothing after a tag", 0, cabinet.take(3, 0, 0));
        Check.same("13: after a tag", 2, cabinet.take(3, 0, 2));
        Check.same("13: and on", 11, cabinet.take(3, 2, 9));
        Check.same("14: only what came after the tag before", due(4, filling(0, 11)), cabinet.tag(3));
    }

    /** Promise 14: "then nothing is taken in". */
    private static void tagLeavesNothingTakenIn() {
        long ofNothing = due(3, new int[0]);
        for (int many : new int[] {0, 1, 7, 8, 9, 16, 64}) {
            RuleCiphers cabinet = filled(3);
            cabinet.take(3, 0, many);
            cabinet.tag(3);
            Check.same("14: then none of " + many, ofNothing, cabinet.tag(3));
            Check.same("14: and none again", ofNothing, cabinet.tag(3));
            Check.same("14: still SET", RuleCiphers.SET, cabinet.stage(3));
        }
    }

    private static void tagLeavesTheRest() {
        Twins.unchanged("14: a tag where nothing was taken in", due(3, new int[0]), x -> {
            Scene.play(x, Scene.set(5));
            x.tag(0);
        }, x -> x.tag(0));
    }

    /** "An object is used for at most 512 calls": three make the context SET, the last tells the tag of all others. */
    private static void countsUpToTheLastCall() {
        RuleCiphers cabinet = Cabinet.set(3, 3, 5, 0);
        for (int takes = 1; takes <= 508; takes++) {
            Check.same("13: taken in in all", 64 * takes, cabinet.take(3, 0, 64));
        }
        Check.same("14: of 32512 zeros", due(3, new int[508 * 64]), cabinet.tag(3));
    }
}
