/** A cabinet of five block ciphers, each run through six modes, in four contexts that live side by side. */
public final class RuleCiphers {
    public static final int FREE = 0;
    public static final int CHOSEN = 1;
    public static final int KEYED = 2;
    public static final int SET = 3;
    public static final int NONE = -1;

    private static final int CONTEXT_COUNT = 4;
    private static final int CIPHER_COUNT = 5;
    private static final int BUFFER_BYTES = 64;
    private static final int BLOCK_BYTES = 8;

    // The document's modes 0 to 5, under the names that readers know them by.
    private static final int ECB = 0;
    private static final int CBC = 1;
    private static final int CFB = 2;
    private static final int OFB = 3;
    private static final int CTR = 4;
    private static final int CMAC = 5;

    // The document's RULE: odd numbers nearest to (e - 2) * 2^32 and to 0.61803.. * 2^32.
    private static final int P = 0xb7e15163;
    private static final int Q = 0x9e3779b9;

    private final Context[] contexts = new Context[CONTEXT_COUNT];
    private final int[] buffer = new int[BUFFER_BYTES];

    public RuleCiphers() {
        for (int i = 0; i < CONTEXT_COUNT; i++) {
            contexts[i] = new Context();
        }
    }

    public void choose(int context, int cipher)
            throws IndexOutOfBoundsException, IllegalArgumentException, IllegalStateException {
        Context asked = contextAt(context);
        if (cipher < 0 || cipher >= CIPHER_COUNT) {
            throw new IllegalArgumentException("there is no such cipher");
        }
        if (asked.stage != FREE) {
            throw new IllegalStateException("the context is not free");
        }
        asked.chooseCipher(cipher);
    }

    public void key(int context, long first, long second) throws IndexOutOfBoundsException, IllegalStateException {
        Context asked = contextAt(context);
        if (asked.stage == FREE) {
            throw new IllegalStateException("the context is free");
        }
        asked.setKey(first, second);
    }

    public void mode(int context, int mode, long start)
            throws IndexOutOfBoundsException, IllegalArgumentException, IllegalStateException {
        Context asked = contextAt(context);
        if (mode < ECB || mode > CMAC) {
            throw new IllegalArgumentException("there is no such mode");
        }
        requireKey(asked);
        asked.setMode(mode, start);
    }

    public void free(int context) throws IndexOutOfBoundsException {
        contextAt(context).stage = FREE;
    }

    public int stage(int context) throws IndexOutOfBoundsException {
        return contextAt(context).stage;
    }

    public long block(int context, boolean back, long block) throws IndexOutOfBoundsException, IllegalStateException {
        Context asked = contextAt(context);
        requireKey(asked);
        return asked.cipher.onOrBack(back, block);
    }

    public int word(int context, int i) throws IndexOutOfBoundsException, IllegalStateException {
        Context asked = contextAt(context);
        requireKey(asked);
        return asked.cipher.wordAt(i);
    }

    public void put(int place, int b) throws IndexOutOfBoundsException {
        requirePlace(place);
        buffer[place] = b & 255;
    }

    public int get(int place) throws IndexOutOfBoundsException {
        requirePlace(place);
        return buffer[place];
    }

    public int feed(int context, boolean back, int from, int many)
            throws IndexOutOfBoundsException, IllegalStateException, IllegalArgumentException {
        Context asked = contextAt(context);
        requireInBuffer(from, many);
        if (asked.stage != SET || asked.mode == CMAC) {
            throw new IllegalStateException("the context is not set to a mode that is fed");
        }
        if (asked.feedsWholeBlocks() && many % BLOCK_BYTES != 0) {
            throw new IllegalArgumentException("the mode is fed whole blocks alone");
        }
        return asked.feedBytes(back, buffer, from, many);
    }

    public void seek(int context, long blocks) throws IndexOutOfBoundsException, IllegalStateException {
        Context asked = contextAt(context);
        requireMode(asked, CTR);
        asked.goToBlock(blocks);
    }

    public int take(int context, int from, int many) throws IndexOutOfBoundsException, IllegalStateException {
        Context asked = contextAt(context);
        requireInBuffer(from, many);
        requireMode(asked, CMAC);
        return asked.takeBytes(buffer, from, many);
    }

    public long tag(int context) throws IndexOutOfBoundsException, IllegalStateException {
        Context asked = contextAt(context);
        requireMode(asked, CMAC);
        return asked.tellTag();
    }

    private Context contextAt(int context) {
        if (context < 0 || context >= CONTEXT_COUNT) {
            throw new IndexOutOfBoundsException("there is no such context");
        }
        return contexts[context];
    }

    private static void requireKey(Context asked) {
        if (asked.stage != KEYED && asked.stage != SET) {
            throw new IllegalStateException("the context has no key");
        }
    }

    private static void requireMode(Context asked, int mode) {
        if (asked.stage != SET || asked.mode != mode) {
            throw new IllegalStateException("the context is not set to the mode of this call");
        }
    }

    private static void requirePlace(int place) {
        if (place < 0 || place >= BUFFER_BYTES) {
            throw new IndexOutOfBoundsException("there is no such place in the buffer");
        }
    }

    private static void requireInBuffer(int from, int many) {
        // Where many is 0 there is no byte that could lie outside, so from may be any number.
        boolean outside = many > 0 && (from < 0 || many > BUFFER_BYTES - from);
        if (many < 0 || outside) {
            throw new IndexOutOfBoundsException("not all of the bytes are in the buffer");
        }
    }

    private static int turnLeft(int x, int n) {
        // Java takes shift counts modulo 32, so -n stands for 32 - n and a turn by 0 needs no case of its own.
        return (x << n) | (x >>> -n);
    }

    private static int turnRight(int x, int n) {
        return (x >>> n) | (x << -n);
    }

    private static int bytesReversed(int x) {
        return (x << 24) | ((x & 0xff00) << 8) | ((x >>> 8) & 0xff00) | (x >>> 24);
    }

    private static int firstHalf(long block) {
        return (int) (block >>> 32);
    }

    private static int secondHalf(long block) {
        return (int) block;
    }

    private static long joined(int first, int second) {
        return ((long) first << 32) | (second & 0xffffffffL);
    }

    private static int keyQuarter(long first, long second, int i) {
        long half = i < 2 ? first : second;
        return i % 2 == 0 ? firstHalf(half) : secondHalf(half);
    }

    private static int byteOf(long block, int i) {
        return (int) (block >>> (56 - 8 * i)) & 255;
    }

    private static long readBlock(int[] bytes, int at) {
        long block = 0;
        for (int i = 0; i < BLOCK_BYTES; i++) {
            block = (block << 8) | bytes[at + i];
        }
        return block;
    }

    private static void writeBlock(int[] bytes, int at, long block) {
        for (int i = 0; i < BLOCK_BYTES; i++) {
            bytes[at + i] = byteOf(block, i);
        }
    }

    /** A block cipher with room for the schedule of one key. */
    private abstract static class Cipher {
        final int[] words;

        Cipher(int wordCount) {
            words = new int[wordCount];
        }

        abstract void schedule(long first, long second);

        abstract long on(long block);

        abstract long back(long block);

        final long onOrBack(boolean back, long block) {
            return back ? back(block) : on(block);
        }

        final int wordAt(int i) {
            return i < 0 || i >= words.length ? NONE : words[i];
        }
    }

    /** Cipher 0, known as RC5-32/12/16. */
    private static final class Rc5 extends Cipher {
        private static final int ROUNDS = 12;
        private static final int WORDS = 26;
        private static final int MIXINGS = 78;

        private final int[] quarters = new int[4];

        Rc5() {
            super(WORDS);
        }

        void schedule(long first, long second) {
            for (int j = 0; j < 4; j++) {
                quarters[j] = bytesReversed(keyQuarter(first, second, j));
            }
            words[0] = P;
            for (int i = 1; i < WORDS; i++) {
                words[i] = words[i - 1] + Q;
            }
            mixKeyIntoWords();
        }

        private void mixKeyIntoWords() {
            int x = 0;
            int y = 0;
            for (int step = 0; step < MIXINGS; step++) {
                int i = step % WORDS;
                int j = step % 4;
                x = turnLeft(words[i] + x + y, 3);
                words[i] = x;
                y = turnLeft(quarters[j] + x + y, x + y);
                quarters[j] = y;
            }
        }

        long on(long block) {
            int a = bytesReversed(firstHalf(block)) + words[0];
            int b = bytesReversed(secondHalf(block)) + words[1];
            for (int r = 1; r <= ROUNDS; r++) {
                a = turnLeft(a ^ b, b) + words[2 * r];
                b = turnLeft(b ^ a, a) + words[2 * r + 1];
            }
            return joined(bytesReversed(a), bytesReversed(b));
        }

        long back(long block) {
            int a = bytesReversed(firstHalf(block));
            int b = bytesReversed(secondHalf(block));
            for (int r = ROUNDS; r >= 1; r--) {
                b = turnRight(b - words[2 * r + 1], a) ^ a;
                a = turnRight(a - words[2 * r], b) ^ b;
            }
            return joined(bytesReversed(a - words[0]), bytesReversed(b - words[1]));
        }
    }

    /** Cipher 1, known as XTEA. */
    private static final class Xtea extends Cipher {
        private static final int ROUNDS = 32;

        Xtea() {
            super(4);
        }

        void schedule(long first, long second) {
            for (int i = 0; i < 4; i++) {
                words[i] = keyQuarter(first, second, i);
            }
        }

        long on(long block) {
            int a = firstHalf(block);
            int b = secondHalf(block);
            int s = 0;
            for (int r = 0; r < ROUNDS; r++) {
                a += stirred(b) ^ (s + words[s & 3]);
                s += Q;
                b += stirred(a) ^ (s + words[(s >>> 11) & 3]);
            }
            return joined(a, b);
        }

        long back(long block) {
            int a = firstHalf(block);
            int b = secondHalf(block);
            int s = Q * ROUNDS;
            for (int r = 0; r < ROUNDS; r++) {
                b -= stirred(a) ^ (s + words[(s >>> 11) & 3]);
                s -= Q;
                a -= stirred(b) ^ (s + words[s & 3]);
            }
            return joined(a, b);
        }

        private static int stirred(int x) {
            return ((x << 4) ^ (x >>> 5)) + x;
        }
    }

    /** Cipher 2, known as SPECK 64/128. */
    private static final class Speck extends Cipher {
        private static final int ROUNDS = 27;

        // L0 .. L2 at first; L(i + 3) takes the place of Li, which is not used again.
        private final int[] lasts = new int[3];

        Speck() {
            super(ROUNDS);
        }

        void schedule(long first, long second) {
            for (int i = 0; i < 3; i++) {
                lasts[2 - i] = keyQuarter(first, second, i);
            }
            words[0] = keyQuarter(first, second, 3);
            for (int i = 0; i < ROUNDS - 1; i++) {
                int made = (words[i] + turnRight(lasts[i % 3], 8)) ^ i;
                lasts[i % 3] = made;
                words[i + 1] = turnLeft(words[i], 3) ^ made;
            }
        }

        long on(long block) {
            int x = firstHalf(block);
            int y = secondHalf(block);
            for (int i = 0; i < ROUNDS; i++) {
                x = (turnRight(x, 8) + y) ^ words[i];
                y = turnLeft(y, 3) ^ x;
            }
            return joined(x, y);
        }

        long back(long block) {
            int x = firstHalf(block);
            int y = secondHalf(block);
            for (int i = ROUNDS - 1; i >= 0; i--) {
                y = turnRight(y ^ x, 3);
                x = turnLeft((x ^ words[i]) - y, 8);
            }
            return joined(x, y);
        }
    }

    /** Cipher 3, known as SIMON 64/128. */
    private static final class Simon extends Cipher {
        private static final int ROUNDS = 44;
        private static final long Z = 0b11011011101011000110010111100000010010001010011100110100001111L;
        private static final int Z_LAST = 61;

        Simon() {
            super(ROUNDS);
        }

        void schedule(long first, long second) {
            for (int i = 0; i < 4; i++) {
                words[3 - i] = keyQuarter(first, second, i);
            }
            for (int i = 4; i < ROUNDS; i++) {
                int u = turnRight(words[i - 1], 3) ^ words[i - 3];
                u ^= turnRight(u, 1);
                words[i] = ~words[i - 4] ^ u ^ zBit(i - 4) ^ 3;
            }
        }

        private static int zBit(int i) {
            return (int) (Z >>> (Z_LAST - i)) & 1;
        }

        long on(long block) {
            int x = firstHalf(block);
            int y = secondHalf(block);
            for (int i = 0; i < ROUNDS; i++) {
                int was = x;
                x = y ^ stirred(x) ^ words[i];
                y = was;
            }
            return joined(x, y);
        }

        long back(long block) {
            int x = firstHalf(block);
            int y = secondHalf(block);
            for (int i = ROUNDS - 1; i >= 0; i--) {
                int was = y;
                y = x ^ stirred(y) ^ words[i];
                x = was;
            }
            return joined(x, y);
        }

        private static int stirred(int x) {
            return (turnLeft(x, 1) & turnLeft(x, 8)) ^ turnLeft(x, 2);
        }
    }

    /**
     * Cipher 4, known as IDEA. A round is a keying, a mixing and a swap of the middle quarters. The mixing and the
     * swap undo themselves, and a keying is undone by a keying with the undoing words.
     */
    private static final class Idea extends Cipher {
        private static final int ROUNDS = 8;
        private static final int WORDS = 52;
        private static final int LAST_KEYING = 48;
        private static final int LOW_16 = 0xffff;

        private final int[] undoing = new int[WORDS];

        Idea() {
            super(WORDS);
        }

        void schedule(long first, long second) {
            long high = first;
            long low = second;
            for (int i = 0; i < WORDS; i++) {
                int eighth = i % 8;
                words[i] = quarterOf(eighth < 4 ? high : low, eighth % 4);
                if (eighth == 7) {
                    long wasHigh = high;
                    high = (high << 25) | (low >>> 39);
                    low = (low << 25) | (wasHigh >>> 39);
                }
            }
            for (int k = 0; k <= LAST_KEYING; k += 6) {
                undoing[k] = inverse(words[k]);
                undoing[k + 1] = -words[k + 1] & LOW_16;
                undoing[k + 2] = -words[k + 2] & LOW_16;
                undoing[k + 3] = inverse(words[k + 3]);
            }
        }

        long on(long block) {
            long now = block;
            for (int r = 0; r < ROUNDS; r++) {
                now = middleSwapped(mixed(keyed(now, words, 6 * r), 6 * r + 4));
            }
            return keyed(middleSwapped(now), words, LAST_KEYING);
        }

        long back(long block) {
            long now = middleSwapped(keyed(block, undoing, LAST_KEYING));
            for (int r = ROUNDS - 1; r >= 0; r--) {
                now = keyed(mixed(middleSwapped(now), 6 * r + 4), undoing, 6 * r);
            }
            return now;
        }

        private static long keyed(long block, int[] by, int k) {
            int a = times(quarterOf(block, 0), by[k]);
            int b = quarterOf(block, 1) + by[k + 1];
            int c = quarterOf(block, 2) + by[k + 2];
            int d = times(quarterOf(block, 3), by[k + 3]);
            return ofQuarters(a, b, c, d);
        }

        private long mixed(long block, int k) {
            int e = times(quarterOf(block, 0) ^ quarterOf(block, 2), words[k]);
            int f = times((e + (quarterOf(block, 1) ^ quarterOf(block, 3))) & LOW_16, words[k + 1]);
            int g = e + f;
            return block ^ ofQuarters(f, g, f, g);
        }

        private static long middleSwapped(long block) {
            return ofQuarters(quarterOf(block, 0), quarterOf(block, 2), quarterOf(block, 1), quarterOf(block, 3));
        }

        private static int quarterOf(long block, int i) {
            return (int) (block >>> (48 - 16 * i)) & LOW_16;
        }

        private static long ofQuarters(long a, long b, long c, long d) {
            return ((a & LOW_16) << 48) | ((b & LOW_16) << 32) | ((c & LOW_16) << 16) | (d & LOW_16);
        }

        private static int times(int x, int y) {
            long product = (long) (x == 0 ? 65536 : x) * (y == 0 ? 65536 : y);
            return (int) (product % 65537) & LOW_16;
        }

        private static int inverse(int x) {
            // 65537 is prime, so the inverse is x to the power of 65535, whose sixteen bits are all ones.
            int power = x;
            for (int i = 1; i < 16; i++) {
                power = times(times(power, power), x);
            }
            return power;
        }
    }

    /** The bytes taken in for a tag, held as the sum of all blocks but the last. */
    private static final class Taken {
        private static final int DOUBLING = 27;
        private static final int END_MARK = 128;

        private int count;
        private long sum;
        private long last;
        private int lastBytes;

        void clear() {
            count = 0;
            sum = 0;
            last = 0;
            lastBytes = 0;
        }

        int add(Cipher cipher, int[] bytes, int from, int many) {
            for (int i = 0; i < many; i++) {
                addByte(cipher, bytes[from + i]);
            }
            count += many;
            return count;
        }

        private void addByte(Cipher cipher, int b) {
            // A full last block waits for one more byte: only then is it known not to be the last.
            if (lastBytes == BLOCK_BYTES) {
                sum = cipher.on(sum ^ last);
                last = 0;
                lastBytes = 0;
            }
            last |= atByte(b, lastBytes);
            lastBytes++;
        }

        long tagBy(Cipher cipher) {
            long mask = doubled(cipher.on(0));
            long end = last;
            if (lastBytes < BLOCK_BYTES) {
                mask = doubled(mask);
                end |= atByte(END_MARK, lastBytes);
            }
            return cipher.on(sum ^ end ^ mask);
        }

        private static long atByte(int b, int i) {
            return (long) b << (56 - 8 * i);
        }

        private static long doubled(long z) {
            return z < 0 ? (z << 1) ^ DOUBLING : z << 1;
        }
    }

    /** One of the places side by side: its stage, cipher and key, and what its mode remembers. */
    private static final class Context {
        private final Cipher[] ciphers = {new Rc5(), new Xtea(), new Speck(), new Simon(), new Idea()};
        private final Taken taken = new Taken();

        int stage = FREE;
        int mode = ECB;
        Cipher cipher = ciphers[0];

        private long start;
        private long w;
        private long stream;
        private int n;
        private int fed;

        void chooseCipher(int number) {
            cipher = ciphers[number];
            stage = CHOSEN;
        }

        void setKey(long first, long second) {
            cipher.schedule(first, second);
            stage = KEYED;
        }

        void setMode(int number, long startBlock) {
            mode = number;
            start = startBlock;
            w = startBlock;
            n = 0;
            fed = 0;
            taken.clear();
            stage = SET;
        }

        boolean feedsWholeBlocks() {
            return mode == ECB || mode == CBC;
        }

        int feedBytes(boolean back, int[] bytes, int from, int many) {
            int step = feedsWholeBlocks() ? BLOCK_BYTES : 1;
            for (int i = 0; i < many; i += step) {
                feedStep(back, bytes, from + i);
            }
            fed += many;
            return fed;
        }

        private void feedStep(boolean back, int[] bytes, int at) {
            switch (mode) {
                case ECB:
                    writeBlock(bytes, at, cipher.onOrBack(back, readBlock(bytes, at)));
                    break;
                case CBC:
                    writeBlock(bytes, at, chained(back, readBlock(bytes, at)));
                    break;
                case CFB:
                    bytes[at] = fedBehind(back, bytes[at]);
                    break;
                case OFB:
                    bytes[at] ^= nextOfOwnStream();
                    break;
                default:
                    bytes[at] ^= nextOfCountedStream();
                    break;
            }
        }

        private long chained(boolean back, long block) {
            if (back) {
                long plain = cipher.back(block) ^ w;
                w = block;
                return plain;
            }
            w = cipher.on(block ^ w);
            return w;
        }

        private int fedBehind(boolean back, int was) {
            int becomes = was ^ byteOf(cipher.on(w), 0);
            w = (w << 8) | (back ? was : becomes);
            return becomes;
        }

        private int nextOfOwnStream() {
            if (n == 0) {
                w = cipher.on(w);
            }
            int b = byteOf(w, n);
            n = (n + 1) % BLOCK_BYTES;
            return b;
        }

        private int nextOfCountedStream() {
            // W stays the same while n goes round, so E of W is made once for all eight bytes.
            if (n == 0) {
                stream = cipher.on(w);
            }
            int b = byteOf(stream, n);
            n = (n + 1) % BLOCK_BYTES;
            if (n == 0) {
                w++;
            }
            return b;
        }

        void goToBlock(long blocks) {
            w = start + blocks;
            n = 0;
        }

        int takeBytes(int[] bytes, int from, int many) {
            return taken.add(cipher, bytes, from, many);
        }

        long tellTag() {
            long tag = taken.tagBy(cipher);
            taken.clear();
            return tag;
        }
    }
}
