/**
 * Promises 7 and 8: block and word. Beside what the ciphers' own papers publish stand blocks and keys at the ends,
 * whose answers come from a third writing of the document, in another language.
 */
final class CipherTest {
    private static final int[] WORD_COUNTS = {26, 4, 27, 44, 52};

    /** What each row of AT_THE_ENDS is ON of, from left to right. */
    private static final long[] BLOCKS = {0, -1, Long.MIN_VALUE, 1};

    /** The keys of each cipher's four rows of AT_THE_ENDS. */
    private static final long[][] KEYS = {{0, 0}, {-1, -1}, {Long.MIN_VALUE, 0}, {0, 1}};

    private static final long[][] AT_THE_ENDS = {
        {0x21a5dbee154b8f6dL, 0xca9e714c1fff3e59L, 0x4fa2d5ee39b74137L, 0xaaf64681e2ac59b1L},
        {0x34dd75a2918743b2L, 0x778769e9be0167b7L, 0x299cfa01ee61713bL, 0xd16674a5982a30f8L},
        {0x8f681d7f285cdc2fL, 0x407620d10d595ba4L, 0xcf40376f17856704L, 0x176b7b35fe8723feL},
        {0x52489bf5f14f98d2L, 0x9fab8453b85d1191L, 0x06a82a3a9097040bL, 0x5ff782778d9951a0L},
        {0xdee9d4d8f7131ed9L, 0x964213b6a97c8c59L, 0x37a3cbd9f11c28d5L, 0x47186468d1d2343dL},
        {0x1714a59c330459c6L, 0x28fc2891e623566aL, 0x9fcda70dc9a59142L, 0x26f07e034b235da4L},
        {0x057e8c0550151937L, 0xc4361d572d54c2deL, 0x04da5582d93ef309L, 0xefcf8147c67ae485L},
        {0x5bac83ce2b9dd3ccL, 0xfc210c57ed454743L, 0xc92530efa0b0cf6fL, 0x9f25fa5b0f86b758L},
        {0x680448d5272f692cL, 0x0933367859ecaf93L, 0x3516e16315ec08fbL, 0x21db61dbf7c4795bL},
        {0xd5498d3fe9e74226L, 0x0a819fbb830d3e90L, 0xb411fb69cca58037L, 0x9ff0c9024e9a1ec7L},
        {0xf13cee38bab123fbL, 0x76f3e67298332ccbL, 0x7a4640023096de5dL, 0xcdc3376b73271e2cL},
        {0xa51175411dcf0502L, 0x6f242b6360cce4c0L, 0x502e9686ecd94c51L, 0x79b748df681f10e6L},
        {0xedf1be0a54d9bf51L, 0xccc468fd2553cacbL, 0x5b9bf6f32eed5465L, 0xcfc350400903f259L},
        {0x86274bb182bc77e6L, 0xdb15e84a8daff32aL, 0x399fd2a4b841b1f5L, 0xa8f9445da39c34a4L},
        {0x7610aaa67791511eL, 0x7cb1c9f8f91a230dL, 0x0d824b0913136e35L, 0xdb70ef47bbef3ef0L},
        {0xb3a7fcb6dbb04ce9L, 0xd7ad02d748eb1ac6L, 0x1338f5c6d1382456L, 0x351894fe5f2c56f4L},
        {0x0001000100000000L, 0x00020002fffbfffbL, 0x8001000180008000L, 0x0013fff500120009L},
        {0xdbaab15d54844fe7L, 0xcd1ab2c1211041fbL, 0x2fae28a196212a5cL, 0x66677e421d0b620cL},
        {0xb1f5f7f87901370fL, 0x4e570eea0f80ca7aL, 0x99f175ff0d001614L, 0xcc11c822b04757b9L},
        {0xc57adbde27bc26cfL, 0x1263d062ae2a1790L, 0x3e7ad3de4dbcbbcfL, 0x162187ec7f589d49L}};

    public static void main(String[] args) {
        published();
        blocksAndKeysAtTheEnds();
        backUndoesOn();
        backUndoesOnWhereProductsMeetZero();
        blockWhenKeyedAndWhenSet();
        blockChangesNothing();
        firstAndLastWord();
        noSuchWord();
        wordWhenKeyedAndWhenSet();
        wordChangesNothing();
        Check.end();
    }

    private static void published() {
        vector(0, 0L, 0L, 0L, 0x21a5dbee154b8f6dL);
        vector(0, 0x915f4619be41b251L, 0x6355a50110a9ce91L, 0x21a5dbee154b8f6dL, 0xf7c013ac5b2b8952L);
        vector(0, 0x783348e75aeb0f2fL, 0xd7b169bb8dc16787L, 0xf7c013ac5b2b8952L, 0x2f42b3b70369fc92L);
        vector(1, 0x0001020304050607L, 0x08090a0b0c0d0e0fL, 0x4142434445464748L, 0x497df3d072612cb5L);
        vector(1, 0x0001020304050607L, 0x08090a0b0c0d0e0fL, 0x4141414141414141L, 0xe78f2d13744341d8L);
        vector(1, 0L, 0L, 0x4142434445464748L, 0xa0390589f8b8efa5L);
        vector(2, 0x1b1a191813121110L, 0x0b0a090803020100L, 0x3b7265747475432dL, 0x8c6fa548454e028bL);
        vector(3, 0x1b1a191813121110L, 0x0b0a090803020100L, 0x656b696c20646e75L, 0x44c8fc20b9dfa07aL);
        vector(4, 0x0001000200030004L, 0x0005000600070008L, 0x0000000100020003L, 0x11fbed2b01986de5L);
    }

    private static void vector(int cipher, long first, long second, long plain, long hidden) {
        RuleCiphers cabinet = Cabinet.keyed(1, cipher, first, second);
        Check.same("7: cipher " + cipher + " on", hidden, cabinet.block(1, false, plain));
        Check.same("7: cipher " + cipher + " back", plain, cabinet.block(1, true, hidden));
    }

    private static void blocksAndKeysAtTheEnds() {
        for (int row = 0; row < AT_THE_ENDS.length; row++) {
            long[] key = KEYS[row % 4];
            for (int i = 0; i < BLOCKS.length; i++) {
                vector(row / 4, key[0], key[1], BLOCKS[i], AT_THE_ENDS[row][i]);
            }
        }
    }

    /** "BACK is what ON makes undone." */
    private static void backUndoesOn() {
        for (int cipher = 0; cipher < 5; cipher++) {
            long block = 1;
            for (int round = 0; round < 40; round++) {
                thereAndBack(Cabinet.keyed(0, cipher, block * 31, ~block), "cipher " + cipher, block);
                block = Cabinet.on(cipher, block);
            }
        }
    }

    private static void thereAndBack(RuleCiphers cabinet, String what, long block) {
        Check.same("7: back of on, " + what, block, cabinet.block(0, true, cabinet.block(0, false, block)));
        Check.same("7: on of back, " + what, block, cabinet.block(0, false, cabinet.block(0, true, block)));
    }

    /** BACK of cipher 4 needs the inverse of every word, of 0 (which stands for 65536), 1 and 65535, too. */
    private static void backUndoesOnWhereProductsMeetZero() {
        long[] blocks = {0, 1, -1, Long.MIN_VALUE, 0x0000ffff0000ffffL, 0xffff0000ffff0000L, 0x0001000100010001L};
        long[] halves = {0, -1, 1, 0x0001000000000000L, 0xffff000000000000L, 0x0000ffff0001fffeL, 0x0002000100000003L};
        for (long first : halves) {
            for (long second : halves) {
                for (long block : blocks) {
                    thereAndBack(Cabinet.keyed(0, 4, first, second), "cipher 4", block);
                }
            }
        }
    }

    /** Promise 7: answers when "KEYED or SET", whatever the mode. */
    private static void blockWhenKeyedAndWhenSet() {
        for (int scene = Scene.KEYED; scene < Scene.COUNT; scene++) {
            RuleCiphers cabinet = new RuleCiphers();
            Scene.play(cabinet, scene);
            String when = " when " + Scene.name(scene);
            Check.same("7: on" + when, Cabinet.on(3, 9), cabinet.block(0, false, 9));
            Check.same("7: back" + when, Cabinet.back(3, 9), cabinet.block(0, true, 9));
        }
    }

    /** Promise 7: "nothing of the mode changes". */
    private static void blockChangesNothing() {
        for (int scene = Scene.KEYED; scene < Scene.COUNT; scene++) {
            int here = scene;
            for (long block : new long[] {0, -1, Scene.START}) {
                String what = "7: block when " + Scene.name(scene);
                Twins.unchanged(what + ", on", Cabinet.on(3, block), x -> Scene.play(x, here),
                        x -> x.block(0, false, block));
                Twins.unchanged(what + ", back", Cabinet.back(3, block), x -> Scene.play(x, here),
                        x -> x.block(0, true, block));
            }
        }
    }

    /** Promise 8: "Word i of the schedule", at both of its ends. */
    private static void firstAndLastWord() {
        int[] first = {0x33347b7a, 0x1234567, 0x76543210, 0x76543210, 0x123};
        int[] last = {0x841b9079, 0x76543210, 0xf3714aa0, 0x25463049, 0xb72e};
        for (int cipher = 0; cipher < 5; cipher++) {
            RuleCiphers cabinet = Cabinet.keyed(2, cipher, Cabinet.FIRST, Cabinet.SECOND);
            int count = WORD_COUNTS[cipher];
            Check.same("8: word 0 of cipher " + cipher, first[cipher], cabinet.word(2, 0));
            Check.same("8: last word of cipher " + cipher, last[cipher], cabinet.word(2, count - 1));
        }
    }

    /** Promise 8: "NONE when there is no such one". */
    private static void noSuchWord() {
        for (int cipher = 0; cipher < 5; cipher++) {
            int count = WORD_COUNTS[cipher];
            for (int none : new int[] {-1, -2, count, count + 1, 64, 256, Integer.MIN_VALUE, Integer.MAX_VALUE}) {
                RuleCiphers cabinet = Cabinet.keyed(2, cipher, 0, 0);
                Check.same("8: word " + none + " of cipher " + cipher, RuleCiphers.NONE, cabinet.word(2, none));
            }
        }
    }

    /** A context that ran a cipher with more words before has only those of its cipher now. */
    private static void wordWhenKeyedAndWhenSet() {
        for (int scene = Scene.KEYED; scene < Scene.COUNT; scene++) {
            RuleCiphers cabinet = Cabinet.keyed(0, 4, 0, 0);
            cabinet.free(0);
            Scene.play(cabinet, scene);
            String when = " when " + Scene.name(scene);
            Check.same("8: first word" + when, 0x76543210, cabinet.word(0, 0));
            Check.same("8: fourth word" + when, 0x01234567, cabinet.word(0, 3));
            Check.same("8: word 44 of 44" + when, RuleCiphers.NONE, cabinet.word(0, 44));
        }
    }

    private static void wordChangesNothing() {
        for (int scene = Scene.KEYED; scene < Scene.COUNT; scene++) {
            int here = scene;
            String what = "8: word when " + Scene.name(scene);
            Twins.unchanged(what, 0x76543210, x -> Scene.play(x, here), x -> x.word(0, 0));
            Twins.unchanged(what, RuleCiphers.NONE, x -> Scene.play(x, here), x -> x.word(0, -1));
            Twins.unchanged(what, RuleCiphers.NONE, x -> Scene.play(x, here), x -> x.word(0, 44));
        }
    }
}
