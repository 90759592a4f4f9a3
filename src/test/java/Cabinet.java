/** Short ways for the tests to bring an object to where a promise can be looked at. */
final class Cabinet {
    static final long FIRST = 0x0123456789abcdefL;
    static final long SECOND = 0xfedcba9876543210L;

    private Cabinet() {
    }

    static RuleCiphers keyed(int context, int cipher, long first, long second) {
        RuleCiphers cabinet = new RuleCiphers();
        cabinet.choose(context, cipher);
        cabinet.key(context, first, second);
        return cabinet;
    }

    static RuleCiphers set(int context, int cipher, int mode, long start) {
        RuleCiphers cabinet = keyed(context, cipher, FIRST, SECOND);
        cabinet.mode(context, mode, start);
        return cabinet;
    }

    /** E with the tests' own key, made of block() on an object of its own. */
    static long on(int cipher, long block) {
        return keyed(0, cipher, FIRST, SECOND).block(0, false, block);
    }

    static long back(int cipher, long block) {
        return keyed(0, cipher, FIRST, SECOND).block(0, true, block);
    }

    /** Fills the whole buffer with bytes that all differ. */
    static void fill(RuleCiphers cabinet) {
        for (int place = 0; place < 64; place++) {
            cabinet.put(place, filling(place));
        }
    }

    static int filling(int place) {
        return (place * 37 + 11) & 255;
    }

    static void putBlock(RuleCiphers cabinet, int at, long block) {
        for (int i = 0; i < 8; i++) {
            cabinet.put(at + i, (int) (block >>> (56 - 8 * i)));
        }
    }

    static long blockAt(RuleCiphers cabinet, int at) {
        long block = 0;
        for (int i = 0; i < 8; i++) {
            block = (block << 8) | cabinet.get(at + i);
        }
        return block;
    }

    static String buffer(RuleCiphers cabinet) {
        StringBuilder text = new StringBuilder();
        for (int place = 0; place < 64; place++) {
            text.append(cabinet.get(place)).append(' ');
        }
        return text.toString();
    }

    static int byteOf(long block, int i) {
        return (int) (block >>> (56 - 8 * i)) & 255;
    }
}
