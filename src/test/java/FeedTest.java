/**
 * Promises 11 and 12: feed in modes 0 to 4, and seek. What is due is made of block() alone; what they refuse is in
 * RefusalTest.
 */
final class FeedTest {
    private static final long START = 0x1122334455667788L;

    public static void main(String[] args) {
        for (int cipher = 0; cipher < 5; cipher++) {
            mode0(cipher);
            mode1(cipher);
            mode2(cipher);
            mode3(cipher);
            mode4(cipher);
            backUndoesOn(cipher);
        }
        for (int mode = 0; mode < 5; mode++) {
            nothingFed(mode);
            nothingFedFromAnywhere(mode);
            everySpan(mode);
            inTwoPieces(mode);
            countsAllThatWasFed(mode);
            countsUpToTheLastCall(mode);
        }
        byteByByte();
        counterWraps();
        counterGoesOnBehindTheEighthByte();
        seekGoesToV();
        seekIsAsIfFed();
        seekWraps();
        seekInTheMidstOfABlock();
        seekLeavesTheCount();
        seekLeavesTheRest();
        Check.end();
    }

    private static RuleCiphers filled(int cipher, int mode) {
        RuleCiphers cabinet = Cabinet.set(1, cipher, mode, START);
        Cabinet.fill(cabinet);
        return cabinet;
    }

    /** "mode 0: each eight bytes become what E makes of them, or BACK." */
    private static void mode0(int cipher) {
        RuleCiphers cabinet = filled(cipher, 0);
        long one = Cabinet.blockAt(cabinet, 5);
        long two = Cabinet.blockAt(cabinet, 13);
        Check.same("11: mode 0", 16, cabinet.feed(1, false, 5, 16));
        Check.same("11: mode 0, first block", cabinet.block(1, false, one), Cabinet.blockAt(cabinet, 5));
        Check.same("11: mode 0, second block", cabinet.block(1, false, two), Cabinet.blockAt(cabinet, 13));
        long far = Cabinet.blockAt(cabinet, 40);
        Check.same("11: mode 0 back", 24, cabinet.feed(1, true, 40, 8));
        Check.same("11: mode 0, block back", cabinet.block(1, true, far), Cabinet.blockAt(cabinet, 40));
    }

    /** "Mode 1: ON: .. E of (they ^ W), W is that then; BACK: .. BACK of them ^ W, W is what they were." */
    private static void mode1(int cipher) {
        RuleCiphers cabinet = filled(cipher, 1);
        long one = Cabinet.blockAt(cabinet, 0);
        long two = Cabinet.blockAt(cabinet, 8);
        long three = Cabinet.blockAt(cabinet, 16);
        long four = Cabinet.blockAt(cabinet, 24);
        long five = Cabinet.blockAt(cabinet, 32);
        cabinet.feed(1, false, 0, 16);
        long w = cabinet.block(1, false, one ^ START);
        Check.same("11: mode 1, first block", w, Cabinet.blockAt(cabinet, 0));
        w = cabinet.block(1, false, two ^ w);
        Check.same("11: mode 1, second block", w, Cabinet.blockAt(cabinet, 8));
        cabinet.feed(1, true, 16, 16);
        Check.same("11: mode 1 back", cabinet.block(1, true, three) ^ w, Cabinet.blockAt(cabinet, 16));
        Check.same("11: mode 1 back again", cabinet.block(1, true, four) ^ three, Cabinet.blockAt(cabinet, 24));
        cabinet.feed(1, false, 32, 8);
        Check.same("11: mode 1 on again", cabinet.block(1, false, five ^ four), Cabinet.blockAt(cabinet, 32));
    }

    /** "Mode 2 .. W loses byte 0, and m as it is then comes behind; BACK: likewise, but what m was comes behind." */
    private static void mode2(int cipher) {
        RuleCiphers cabinet = filled(cipher, 2);
        cabinet.feed(1, false, 3, 10);
        cabinet.feed(1, true, 13, 10);
        cabinet.feed(1, false, 23, 10);
        long w = START;
        for (int place = 3; place < 33; place++) {
            boolean back = place >= 13 && place < 23;
            int was = Cabinet.filling(place);
            int becomes = was ^ Cabinet.byteOf(cabinet.block(1, false, w), 0);
            Check.same("11: mode 2, place " + place, becomes, cabinet.get(place));
            w = (w << 8) | (back ? was : becomes);
        }
    }

    /** "Mode 3 .. if n is 0, W becomes E of W; m becomes m ^ (byte n of W); n = (n + 1) % 8", ON as BACK. */
    private static void mode3(int cipher) {
        RuleCiphers cabinet = filled(cipher, 3);
        cabinet.feed(1, false, 1, 11);
        cabinet.feed(1, true, 12, 10);
        long w = START;
        for (int i = 0; i < 21; i++) {
            w = i % 8 == 0 ? cabinet.block(1, false, w) : w;
            int due = Cabinet.filling(1 + i) ^ Cabinet.byteOf(w, i % 8);
            Check.same("11: mode 3, byte " + i, due, cabinet.get(1 + i));
        }
    }

    /** "Mode 4 likewise, with E of W in the place of W, and when n has become 0 again, W = W + 1". */
    private static void mode4(int cipher) {
        RuleCiphers cabinet = filled(cipher, 4);
        cabinet.feed(1, false, 43, 11);
        cabinet.feed(1, true, 54, 10);
        for (int i = 0; i < 21; i++) {
            long stream = cabinet.block(1, false, START + i / 8);
            int due = Cabinet.filling(43 + i) ^ Cabinet.byteOf(stream, i % 8);
            Check.same("11: mode 4, byte " + i, due, cabinet.get(43 + i));
        }
    }

    private static void backUndoesOn(int cipher) {
        for (int mode = 0; mode < 5; mode++) {
            RuleCiphers cabinet = filled(cipher, mode);
            String before = Cabinet.buffer(cabinet);
            cabinet.feed(1, false, 0, 64);
            String hidden = Cabinet.buffer(cabinet);
            Check.same("11: mode " + mode + " does something", 0, before.equals(hidden) ? 1 : 0);
            cabinet.mode(1, mode, START);
            cabinet.feed(1, true, 0, 64);
            Check.same("11: mode " + mode + " back undoes on", before, Cabinet.buffer(cabinet));
        }
    }

    /** No bytes, from the buffer's first place to the one behind its last: all are in the buffer, nothing changes. */
    private static void nothingFed(int mode) {
        int fedBefore = mode < 2 ? 16 : 13;
        for (int from : new int[] {0, 1, 63, 64}) {
            String what = "11: no bytes from " + from + " in mode " + mode;
            Twins.unchanged(what, fedBefore, x -> Scene.play(x, Scene.set(mode)), x -> x.feed(0, false, from, 0));
            Twins.unchanged(what + " back", fedBefore, x -> Scene.play(x, Scene.set(mode)),
                    x -> x.feed(0, true, from, 0));
        }
    }

    /** Where many is 0, from .. from + many - 1 names no byte, so none is outside the buffer. */
    private static void nothingFedFromAnywhere(int mode) {
        int fedBefore = mode < 2 ? 16 : 13;
        for (int from : new int[] {-1, 65, Integer.MIN_VALUE, Integer.MAX_VALUE}) {
            Twins.unchanged("11: no bytes from " + from + " in mode " + mode, fedBefore,
                    x -> Scene.play(x, Scene.set(mode)), x -> x.feed(0, false, from, 0));
        }
    }

    /** Every span in the buffer is fed, up to its last byte and to the whole of it, and no byte beside it changes. */
    private static void everySpan(int mode) {
        int step = mode < 2 ? 8 : 1;
        for (int from = 0; from < 64; from++) {
            for (int many = step; many <= 64 - from; many += step) {
                RuleCiphers cabinet = filled(2, mode);
                Check.same("11: feed(" + from + ", " + many + ")", many, cabinet.feed(1, false, from, many));
                besideStays("11: mode " + mode + ", feed(" + from + ", " + many + ")", cabinet, from, from + many);
            }
        }
    }

    private static void besideStays(String what, RuleCiphers cabinet, int from, int to) {
        int changed = 0;
        for (int place = 0; place < 64; place++) {
            boolean beside = place < from || place >= to;
            changed += beside && cabinet.get(place) != Cabinet.filling(place) ? 1 : 0;
        }
        Check.same(what + ", bytes changed beside", 0, changed);
    }

    private static void inTwoPieces(int mode) {
        RuleCiphers whole = filled(2, mode);
        whole.feed(1, false, 0, 64);
        String due = Cabinet.buffer(whole);
        int step = mode < 2 ? 8 : 1;
        for (int cut = 0; cut <= 64; cut += step) {
            RuleCiphers pieces = filled(2, mode);
            Check.same("11: first piece", cut, pieces.feed(1, false, 0, cut));
            Check.same("11: second piece", 64, pieces.feed(1, false, cut, 64 - cut));
            Check.same("11: mode " + mode + " cut at " + cut, due, Cabinet.buffer(pieces));
        }
    }

    private static void byteByByte() {
        for (int mode = 2; mode < 5; mode++) {
            RuleCiphers whole = filled(4, mode);
            whole.feed(1, false, 0, 64);
            RuleCiphers single = filled(4, mode);
            for (int place = 0; place < 64; place++) {
                Check.same("11: byte by byte", place + 1, single.feed(1, false, place, 1));
            }
            Check.same("11: mode " + mode + " byte by byte", Cabinet.buffer(whole), Cabinet.buffer(single));
        }
    }

    /** Promise 11: "how many were fed since the mode was SET, in all", ON and BACK, and no others than these. */
    private static void countsAllThatWasFed(int mode) {
        RuleCiphers cabinet = filled(0, mode);
        Check.same("11: on", 8, cabinet.feed(1, false, 0, 8));
        Check.same("11: back", 24, cabinet.feed(1, true, 0, 16));
        cabinet.block(1, false, 1);
        cabinet.word(1, 1);
        cabinet.put(1, 1);
        Check.same("11: then none", 24, cabinet.feed(1, false, 0, 0));
        Check.badState("11: a take in mode " + mode, () -> cabinet.take(1, 0, 8));
        Check.outOfBounds("11: beyond the buffer", () -> cabinet.feed(1, false, 60, 8));
        Check.same("11: refused bytes are none", 32, cabinet.feed(1, false, 56, 8));
        cabinet.mode(1, mode, START);
        Check.same("11: since the mode was SET", 8, cabinet.feed(1, false, 0, 8));
    }

    /** "An object is used for at most 512 calls": three make the context SET, all others feed the whole buffer. */
    private static void countsUpToTheLastCall(int mode) {
        RuleCiphers cabinet = Cabinet.set(0, 1, mode, 0);
        for (int feeds = 1; feeds <= 509; feeds++) {
            Check.same("11: fed in all", 64 * feeds, cabinet.feed(0, feeds % 3 == 0, 0, 64));
        }
    }

    /** Mode 4: "W = W + 1 (as a number, BIG, modulo 2^64)". */
    private static void counterWraps() {
        long[] starts = {-1, -2, Long.MAX_VALUE, 0xffffffffL, 0xffL, 0xffffL, 0x7fffffffL, 0xffffffff7fffffffL,
            0x00ffffffffffffffL};
        for (long start : starts) {
            RuleCiphers cabinet = Cabinet.set(0, 1, 4, start);
            cabinet.feed(0, false, 0, 32);
            for (int i = 0; i < 4; i++) {
                Check.same("11: mode 4, block " + i + " behind " + start, Cabinet.on(1, start + i),
                        Cabinet.blockAt(cabinet, 8 * i));
            }
        }
        RuleCiphers last = Cabinet.set(0, 1, 4, -1);
        last.feed(0, false, 0, 16);
        Check.same("11: mode 4, behind 2^64 - 1 comes 0", Cabinet.on(1, 0), Cabinet.blockAt(last, 8));
    }

    /** Mode 4: "when n has become 0 again, W = W + 1": not before the eighth byte, and not only at the ninth. */
    private static void counterGoesOnBehindTheEighthByte() {
        for (int many = 1; many <= 16; many++) {
            RuleCiphers cabinet = Cabinet.set(0, 4, 4, START);
            cabinet.feed(0, false, 0, many);
            cabinet.put(20, 0);
            cabinet.feed(0, false, 20, 1);
            int due = Cabinet.byteOf(Cabinet.on(4, START + many / 8), many % 8);
            Check.same("11: mode 4, behind " + many + " bytes", due, cabinet.get(20));
        }
    }

    private static long nextBlock(RuleCiphers cabinet) {
        Cabinet.putBlock(cabinet, 0, 0);
        cabinet.feed(2, false, 0, 8);
        return Cabinet.blockAt(cabinet, 0);
    }

    /** Promise 12: "W = V + blocks": from V, wherever W is. */
    private static void seekGoesToV() {
        RuleCiphers cabinet = Cabinet.set(2, 0, 4, START);
        nextBlock(cabinet);
        nextBlock(cabinet);
        cabinet.seek(2, 0);
        Check.same("12: back to V", Cabinet.on(0, START), nextBlock(cabinet));
        cabinet.seek(2, 3);
        Check.same("12: V + 3", Cabinet.on(0, START + 3), nextBlock(cabinet));
        cabinet.seek(2, 3);
        Check.same("12: V + 3 again", Cabinet.on(0, START + 3), nextBlock(cabinet));
        Check.same("12: and on from there", Cabinet.on(0, START + 4), nextBlock(cabinet));
        cabinet.mode(2, 4, 5);
        cabinet.seek(2, 1);
        Check.same("12: another V", Cabinet.on(0, 6), nextBlock(cabinet));
    }

    /** Promise 12: "Mode 4 goes on as if blocks times eight bytes had been fed since it was SET". */
    private static void seekIsAsIfFed() {
        for (int blocks = 0; blocks <= 8; blocks++) {
            RuleCiphers fed = Cabinet.set(2, 3, 4, START);
            fed.feed(2, false, 0, 8 * blocks);
            RuleCiphers sought = Cabinet.set(2, 3, 4, START);
            sought.feed(2, false, 0, 21);
            sought.seek(2, blocks);
            for (int i = 0; i < 3; i++) {
                Check.same("12: as if " + blocks + " were fed", nextBlock(fed), nextBlock(sought));
            }
        }
    }

    /** Promise 12: W is a number modulo 2^64, so blocks may be any, below 0, too. */
    private static void seekWraps() {
        long[] many = {-1, -2, Long.MAX_VALUE, Long.MIN_VALUE, -START, -START - 1, 0x100000000L, 0xffffffffL};
        for (long start : new long[] {START, 0, -1, Long.MAX_VALUE, Long.MIN_VALUE}) {
            for (long blocks : many) {
                RuleCiphers cabinet = Cabinet.set(2, 2, 4, start);
                cabinet.seek(2, blocks);
                String what = "12: " + start + " + " + blocks;
                Check.same(what, Cabinet.on(2, start + blocks), nextBlock(cabinet));
                Check.same(what + " + 1", Cabinet.on(2, start + blocks + 1), nextBlock(cabinet));
            }
        }
    }

    /** Promise 12: "n = 0", however many bytes of a block were fed. */
    private static void seekInTheMidstOfABlock() {
        for (int many = 0; many <= 9; many++) {
            for (long blocks : new long[] {0, 1}) {
                RuleCiphers cabinet = Cabinet.set(2, 1, 4, START);
                cabinet.feed(2, false, 0, many);
                cabinet.seek(2, blocks);
                Check.same("12: behind " + many + " bytes", Cabinet.on(1, START + blocks), nextBlock(cabinet));
            }
        }
    }

    /** Promise 12: "how many feed() answers stays". */
    private static void seekLeavesTheCount() {
        RuleCiphers cabinet = Cabinet.set(2, 0, 4, START);
        cabinet.seek(2, 7);
        Check.same("12: nothing was fed yet", 0, cabinet.feed(2, false, 0, 0));
        Check.same("12: fed", 13, cabinet.feed(2, false, 0, 13));
        cabinet.seek(2, 1000);
        Check.same("12: still", 13, cabinet.feed(2, false, 0, 0));
        cabinet.seek(2, 0);
        Check.same("12: one more", 14, cabinet.feed(2, true, 0, 1));
    }

    /** Context 0 is sent where it is already, so that all that could change is what seek should leave alone. */
    private static void seekLeavesTheRest() {
        Twins.unchanged("12: seek to the next block", 16, x -> {
            Scene.play(x, Scene.set(4));
            x.feed(0, false, 0, 3);
        }, x -> {
            x.seek(0, 2);
            return x.feed(0, false, 0, 0);
        });
    }
}
