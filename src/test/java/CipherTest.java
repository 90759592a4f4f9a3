/** Promises 7 and 8: block and word, with test vectors that the ciphers' own papers publish. */
final class CipherTest {
    private static final int[] WORD_COUNTS = {26, 4, 27, 44, 52};

    public static void main(String[] args) {
        published();
        publishedWords();
        ideaZeros();
        backUndoesOn();
        blockLeavesTheMode();
        blockWrongly();
        wordEnds();
        wordWrongly();
        Check.end();
    }

    private static void published() {
        vector(0, 0L, 0L, 0L, 0x21a5dbee154b8f6dL);
        vector(0, 0x915f4619be41b251L, 0x6355a50110a9ce91L, 0x21a5dbee154b8f6dL, 0xf7c013ac5b2b8952L);
        vector(0, 0x783348e75aeb0f2fL, 0xd7b169bb8dc16787L, 0xf7c013ac5b2b8952L, 0x2f42b3b70369fc92L);
        vector(1, 0x0001020304050607L, 0x08090a0b0c0d0e0fL, 0x4142434445464748L, 0x497df3d072612cb5L);
        vector(1, 0x0001020304050607L, 0x08090a0b0c0d0e0fL, 0x4141414141414141L, 0xe78f2d13744341d8L);
        vector(1, 0L, 0L, 0x4142434445464748L, 0xa0390589f8b8efa5L);
        vector(2, 0x1b1a191813121110L, 0x0b0a090803020100L, 0x3b7265747475432dL, 0x8c6fa548454e028bL);
        vector(3, 0x1b1a191813121110L, 0x0b0a090803020100L, 0x656b696c20646e75L, 0x44c8fc20b9dfa07aL);
        vector(4, 0x0001000200030004L, 0x0005000600070008L, 0x0000000100020003L, 0x11fbed2b01986de5L);
    }

    private static void vector(int cipher, long first, long second, long plain, long hidden) {
        RuleCiphers cabinet = Cabinet.keyed(1, cipher, first, second);
        Check.same("7: cipher " + cipher + " on", hidden, cabinet.block(1, false, plain));
        Check.same("7: cipher " + cipher + " back", plain, cabinet.block(1, true, hidden));
        cabinet.mode(1, 5, 3);
        Check.same("7: on when SET", hidden, cabinet.block(1, false, plain));
        Check.same("7: back when SET", plain, cabinet.block(1, true, hidden));
    }

    private static void publishedWords() {
        RuleCiphers zero = Cabinet.keyed(0, 0, 0, 0);
        Check.same("8: S0 of the key of zeros", 0x9bbbd8c8, zero.word(0, 0));
        RuleCiphers idea = Cabinet.keyed(0, 4, 0x0001000200030004L, 0x0005000600070008L);
        int[] due = {1, 2, 3, 4, 5, 6, 7, 8, 0x400, 0x600, 0x800, 0xa00, 0xc00, 0xe00, 0x1000, 0x200};
        for (int i = 0; i < due.length; i++) {
            Check.same("8: K" + i, due[i], idea.word(0, i));
        }
        RuleCiphers high = Cabinet.keyed(0, 4, -1, -1);
        for (int i = 0; i < 52; i++) {
            Check.same("8: words of cipher 4 have 16 bits", 0xffff, high.word(0, i));
        }
        for (int cipher = 2; cipher < 4; cipher++) {
            RuleCiphers cabinet = Cabinet.keyed(0, cipher, Cabinet.FIRST, Cabinet.SECOND);
            Check.same("8: T0 is the key's last quarter", 0x76543210, cabinet.word(0, 0));
        }
    }

    /** 0 stands for 65536 in every product of cipher 4, also where BACK needs its inverse. */
    private static void ideaZeros() {
        RuleCiphers cabinet = Cabinet.keyed(0, 4, 0, 0);
        Check.same("7: zeros on", 0x0001000100000000L, cabinet.block(0, false, 0));
        Check.same("7: zeros back", 0x0001000100000000L, cabinet.block(0, true, 0));
        long[] blocks = {0, 1, -1, 0x8000000000000000L, 0x0000ffff0000ffffL, 0xffff0000ffff0000L, 0x0001000100010001L};
        long[] halves = {0, -1, 1, 0x0001000000000000L, 0xffff000000000000L, 0x0000ffff0001fffeL};
        for (long first : halves) {
            for (long second : halves) {
                RuleCiphers keyed = Cabinet.keyed(0, 4, first, second);
                for (long block : blocks) {
                    Check.same("7: there and back", block, keyed.block(0, true, keyed.block(0, false, block)));
                    Check.same("7: back and there", block, keyed.block(0, false, keyed.block(0, true, block)));
                }
            }
        }
    }

    private static void backUndoesOn() {
        for (int cipher = 0; cipher < 5; cipher++) {
            long block = 1;
            for (int round = 0; round < 40; round++) {
                RuleCiphers cabinet = Cabinet.keyed(0, cipher, block * 31, ~block);
                long on = cabinet.block(0, false, block);
                Check.same("7: back of on, cipher " + cipher, block, cabinet.block(0, true, on));
                long back = cabinet.block(0, true, block);
                Check.same("7: on of back, cipher " + cipher, block, cabinet.block(0, false, back));
                block = on;
            }
        }
    }

    private static void blockLeavesTheMode() {
        for (int mode = 0; mode < 5; mode++) {
            RuleCiphers disturbed = Cabinet.set(0, 3, mode, 4);
            RuleCiphers left = Cabinet.set(0, 3, mode, 4);
            int many = mode < 2 ? 8 : 5;
            disturbed.feed(0, false, 0, many);
            left.feed(0, false, 0, many);
            disturbed.block(0, false, 8);
            disturbed.block(0, true, 9);
            Check.same("7: fed goes on", left.feed(0, false, 8, 16), disturbed.feed(0, false, 8, 16));
            Check.same("7: the mode goes on", Cabinet.buffer(left), Cabinet.buffer(disturbed));
        }
    }

    private static void blockWrongly() {
        RuleCiphers cabinet = new RuleCiphers();
        for (int none : Cabinet.NO_CONTEXTS) {
            Check.outOfBounds("7: no such context", () -> cabinet.block(none, false, 0));
            Check.outOfBounds("7: no such context, back", () -> cabinet.block(none, true, 0));
        }
        Check.badState("7: free", () -> cabinet.block(0, false, 0));
        cabinet.choose(0, 0);
        Check.badState("7: chosen", () -> cabinet.block(0, false, 0));
        Check.badState("7: chosen, back", () -> cabinet.block(0, true, 0));
        Check.same("7: still chosen", RuleCiphers.CHOSEN, cabinet.stage(0));
    }

    private static void wordEnds() {
        for (int cipher = 0; cipher < 5; cipher++) {
            // A key of zeros gives no word that happens to be -1 at the ends.
            RuleCiphers cabinet = Cabinet.keyed(2, cipher, 0, 0);
            int count = WORD_COUNTS[cipher];
            Check.same("8: word 0 is there", 0, cabinet.word(2, 0) == RuleCiphers.NONE ? 1 : 0);
            Check.same("8: the last word is there", 0, cabinet.word(2, count - 1) == RuleCiphers.NONE ? 1 : 0);
            for (int none : new int[] {-1, count, count + 1, Integer.MIN_VALUE, Integer.MAX_VALUE}) {
                Check.same("8: no word " + none, RuleCiphers.NONE, cabinet.word(2, none));
            }
        }
    }

    private static void wordWrongly() {
        RuleCiphers cabinet = new RuleCiphers();
        for (int none : Cabinet.NO_CONTEXTS) {
            Check.outOfBounds("8: no such context", () -> cabinet.word(none, 0));
            Check.outOfBounds("8: no such context, no such word", () -> cabinet.word(none, -1));
        }
        Check.badState("8: free", () -> cabinet.word(0, 0));
        cabinet.choose(0, 4);
        Check.badState("8: chosen", () -> cabinet.word(0, 0));
        Check.badState("8: chosen, no such word", () -> cabinet.word(0, 99));
        cabinet.key(0, 0x0007000000000000L, 0);
        cabinet.mode(0, 0, 0);
        Check.same("8: when SET", 7, cabinet.word(0, 0));
    }
}
