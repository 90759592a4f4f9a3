import java.util.Random;

/**
 * The sentences of 'Terms' that tell of boundaries of words, turns, sums, products and schedules. Each cipher is gone
 * through once more in longs, by the document's words and with the words that word() tells, and it is noted which
 * boundary cases were met on the way: a test that meets none would prove nothing.
 */
final class TermsTest {
    private static final long M = 0xffffffffL;
    private static final long P = 0xb7e15163L;
    private static final long Q = 0x9e3779b9L;
    private static final String Z = "11011011101011000110010111100000010010001010011100110100001111";
    private static final int BLOCKS_OF_AN_OBJECT = 400;

    private static boolean[] met;
    private static long[] words;

    public static void main(String[] args) {
        blocksTellByteZeroInFront();
        keysTellByteZeroAndByteEightInFront();
        ruleGivesPAndQ();
        wordsOfCipher0TurnByAnyAmount();
        cipher0TurnsByAnyAmount();
        wordsOfCipher1AreTheKeysQuarters();
        cipher1ShiftsZerosIn();
        wordsOfCipher2();
        cipher2Wraps();
        wordsOfCipher3();
        cipher3TurnsTopBitsRound();
        wordsOfCipher4TurnPast128Places();
        wordsOfCipher4HaveSixteenBits();
        cipher4WithZerosInProducts();
        cipher4WrapsAtSixteenBits();
        Check.end();
    }

    private static RuleCiphers keyed(int cipher, long first, long second) {
        int[] counts = {26, 4, 27, 44, 52};
        RuleCiphers cabinet = Cabinet.keyed(0, cipher, first, second);
        words = new long[counts[cipher]];
        for (int i = 0; i < words.length; i++) {
            words[i] = cabinet.word(0, i) & M;
        }
        return cabinet;
    }

    private static void allMet(String what) {
        for (int i = 0; i < met.length; i++) {
            Check.same(what + ": case " + i + " was met", 1, met[i] ? 1 : 0);
        }
    }

    private static long turned(long x, long n) {
        long left = n & 31;
        return ((x << left) | (x >> (32 - left))) & M;
    }

    /** A word's bytes from the last to the first. */
    private static long little(long x) {
        return ((x & 255) << 24) | ((x & 0xff00) << 8) | ((x >> 8) & 0xff00) | (x >> 24);
    }

    /** Also notes in met whether the sum went beyond 2^32. */
    private static long sum(int kind, long x, long y) {
        met[x + y > M ? kind : kind + 1] = true;
        return (x + y) & M;
    }

    /** "BLOCKS have eight bytes 0 .. 7 .. as longs they are told with byte 0 .. in front." */
    private static void blocksTellByteZeroInFront() {
        for (int cipher = 0; cipher < 5; cipher++) {
            RuleCiphers cabinet = Cabinet.set(0, cipher, 0, 0);
            for (int i = 0; i < 8; i++) {
                cabinet.put(i, 0xf8 + i);
            }
            cabinet.feed(0, false, 0, 8);
            long due = Cabinet.on(cipher, 0xf8f9fafbfcfdfeffL);
            for (int i = 0; i < 8; i++) {
                Check.same("Terms: byte " + i, Cabinet.byteOf(due, i), cabinet.get(i));
            }
        }
    }

    /** "KEYS sixteen, 0 .. 15; as longs they are told with byte 0 (of a key's second long byte 8) in front." */
    private static void keysTellByteZeroAndByteEightInFront() {
        for (int i = 0; i < 16; i++) {
            long bit = 0x80L << (56 - 8 * (i % 8));
            RuleCiphers cabinet = Cabinet.keyed(0, 1, i < 8 ? bit : 0, i < 8 ? 0 : bit);
            for (int word = 0; word < 4; word++) {
                int due = word == i / 4 ? 0x80 << (24 - 8 * (i % 4)) : 0;
                Check.same("Terms: key byte " + i + " in word " + word, due, cabinet.word(0, word));
            }
        }
    }

    /** "the odd whole number nearest to": what the schedule of cipher 0 and cipher 1 are gone through with below. */
    private static void ruleGivesPAndQ() {
        double golden = (1 + Math.sqrt(5)) / 2;
        Check.same("Terms: P", nearestOdd((Math.E - 2) * 0x1p32), P);
        Check.same("Terms: Q", nearestOdd((golden - 1) * 0x1p32), Q);
    }

    private static long nearestOdd(double x) {
        return 2 * (long) (x / 2) + 1;
    }

    /** "turns by n places (n modulo 32)" and the sums of cipher 0's schedule; i % 26, j % 4, 78 times. */
    private static void wordsOfCipher0TurnByAnyAmount() {
        met = new boolean[32];
        Random random = new Random(1);
        for (int run = 0; run < 50; run++) {
            long first = random.nextLong();
            long second = random.nextLong();
            keyed(0, first, second);
            long[] due = schedule0(first, second);
            for (int i = 0; i < 26; i++) {
                Check.same("Terms: S" + i, due[i], words[i]);
            }
        }
        allMet("Terms: turn in the schedule of cipher 0");
    }

    private static long[] schedule0(long first, long second) {
        long[] l = {little(first >>> 32), little(first & M), little(second >>> 32), little(second & M)};
        long[] s = new long[26];
        for (int i = 0; i < 26; i++) {
            s[i] = (P + i * Q) & M;
        }
        long x = 0;
        long y = 0;
        for (int step = 0; step < 78; step++) {
            x = turned((s[step % 26] + x + y) & M, 3);
            s[step % 26] = x;
            met[(int) ((x + y) & 31)] = true;
            y = turned((l[step % 4] + x + y) & M, x + y);
            l[step % 4] = y;
        }
        return s;
    }

    /** "turns by n places (n modulo 32)": by 0 places, by every other amount, and by what is far above 31. */
    private static void cipher0TurnsByAnyAmount() {
        met = new boolean[32];
        RuleCiphers cabinet = keyed(0, Cabinet.FIRST, Cabinet.SECOND);
        for (long block = 0; block < 100; block++) {
            Check.same("Terms: cipher 0", on0(block * Q), cabinet.block(0, false, block * Q));
            Check.same("Terms: cipher 0 back", block * Q, cabinet.block(0, true, on0(block * Q)));
        }
        allMet("Terms: turn in cipher 0");
        turnsByNoPlaces(cabinet);
    }

    private static long on0(long block) {
        long a = (little(block >>> 32) + words[0]) & M;
        long b = (little(block & M) + words[1]) & M;
        for (int r = 1; r <= 12; r++) {
            met[(int) (b & 31)] = true;
            a = (turned(a ^ b, b) + words[2 * r]) & M;
            met[(int) (a & 31)] = true;
            b = (turned(b ^ a, a) + words[2 * r + 1]) & M;
        }
        return (little(a) << 32) | little(b);
    }

    /** B is 0, 32, 2^31 and 2^32 - 32 when A is turned by it for the first time: no place in all four cases. */
    private static void turnsByNoPlaces(RuleCiphers cabinet) {
        for (long amount : new long[] {0, 32, 0x80000000L, 0xffffffe0L}) {
            long block = 0x0102030400000000L | little((amount - words[1]) & M);
            Check.same("Terms: turn by " + amount, on0(block), cabinet.block(0, false, block));
        }
    }

    private static void wordsOfCipher1AreTheKeysQuarters() {
        keyed(1, Cabinet.FIRST, Cabinet.SECOND);
        long[] due = {0x01234567L, 0x89abcdefL, 0xfedcba98L, 0x76543210L};
        for (int i = 0; i < 4; i++) {
            Check.same("Terms: K" + i, due[i], words[i]);
        }
    }

    /** "x << n and x >> n shifts with zeros coming in", the top bit being set or not; all sums "modulo 2^32". */
    private static void cipher1ShiftsZerosIn() {
        met = new boolean[12];
        for (long half : new long[] {0, -1, Cabinet.SECOND}) {
            RuleCiphers cabinet = keyed(1, Cabinet.FIRST, half);
            for (long block : new long[] {0, -1, Long.MIN_VALUE, 0x80000000L, 0x8000000080000000L, Long.MAX_VALUE}) {
                long due = on1(block);
                Check.same("Terms: cipher 1", due, cabinet.block(0, false, block));
                Check.same("Terms: cipher 1 back", block, cabinet.block(0, true, due));
            }
        }
        allMet("Terms: cipher 1");
    }

    private static long on1(long block) {
        long a = block >>> 32;
        long b = block & M;
        long s = 0;
        for (int r = 0; r < 32; r++) {
            met[b >> 31 == 1 ? 0 : 1] = true;
            a = sum(6, a, stirred(b) ^ sum(4, s, words[(int) (s & 3)]));
            s = sum(8, s, Q);
            met[a >> 31 == 1 ? 10 : 11] = true;
            b = sum(6, b, stirred(a) ^ sum(4, s, words[(int) ((s >> 11) & 3)]));
        }
        return (a << 32) | b;
    }

    private static long stirred(long x) {
        return sum(2, ((x << 4) & M) ^ (x >> 5), x);
    }

    /** Every word of cipher 2 follows from the one before and from L, which two neighbours tell. */
    private static void wordsOfCipher2() {
        met = new boolean[2];
        keyed(2, Cabinet.FIRST, Cabinet.SECOND);
        long[] l = new long[29];
        l[2] = 0x01234567L;
        l[1] = 0x89abcdefL;
        l[0] = 0xfedcba98L;
        Check.same("Terms: T0", 0x76543210L, words[0]);
        for (int i = 0; i < 26; i++) {
            l[i + 3] = sum(0, words[i], turned(l[i], -8)) ^ i;
            Check.same("Terms: T" + (i + 1), turned(words[i], 3) ^ l[i + 3], words[i + 1]);
        }
        allMet("Terms: sum in the schedule of cipher 2");
    }

    /** The sum of cipher 2 "modulo 2^32", and its turns over the word's ends. */
    private static void cipher2Wraps() {
        met = new boolean[2];
        RuleCiphers cabinet = keyed(2, Cabinet.FIRST, Cabinet.SECOND);
        for (long block : new long[] {0, -1, Long.MIN_VALUE, 1, 0xff00000000L, 0xffffffffL, 0xe0000000L}) {
            long x = block >>> 32;
            long y = block & M;
            for (int i = 0; i < 27; i++) {
                x = sum(0, turned(x, -8), y) ^ words[i];
                y = turned(y, 3) ^ x;
            }
            Check.same("Terms: cipher 2", (x << 32) | y, cabinet.block(0, false, block));
            Check.same("Terms: cipher 2 back", block, cabinet.block(0, true, (x << 32) | y));
        }
        allMet("Terms: sum in cipher 2");
    }

    /** Every word of cipher 3 follows from the four before it and a bit of z. */
    private static void wordsOfCipher3() {
        keyed(3, Cabinet.FIRST, Cabinet.SECOND);
        long[] key = {0x76543210L, 0xfedcba98L, 0x89abcdefL, 0x01234567L};
        for (int i = 0; i < 4; i++) {
            Check.same("Terms: T" + i, key[i], words[i]);
        }
        for (int i = 4; i < 44; i++) {
            long u = turned(words[i - 1], -3) ^ words[i - 3];
            u ^= turned(u, -1);
            long z = words[i] ^ 3 ^ u ^ (M - words[i - 4]);
            Check.same("Terms: z" + (i - 4), Z.charAt(i - 4) - '0', z);
        }
    }

    private static void cipher3TurnsTopBitsRound() {
        RuleCiphers cabinet = keyed(3, Cabinet.FIRST, Cabinet.SECOND);
        for (int bit = 0; bit < 64; bit++) {
            long block = 1L << bit;
            long x = block >>> 32;
            long y = block & M;
            for (int i = 0; i < 44; i++) {
                long was = x;
                x = y ^ (turned(x, 1) & turned(x, 8)) ^ turned(x, 2) ^ words[i];
                y = was;
            }
            Check.same("Terms: cipher 3", (x << 32) | y, cabinet.block(0, false, block));
            Check.same("Terms: cipher 3 back", block, cabinet.block(0, true, (x << 32) | y));
        }
    }

    /** "the eighths of the key (128 bits, BIG) turned left by 25 * i places": 150 at the end, for each bit of a key. */
    private static void wordsOfCipher4TurnPast128Places() {
        for (int bit = 0; bit < 128; bit++) {
            long half = Long.MIN_VALUE >>> (bit % 64);
            keyed(4, bit < 64 ? half : 0, bit < 64 ? 0 : half);
            for (int k = 0; k < 52; k++) {
                int at = Math.floorMod(bit - 25 * (k / 8), 128);
                long due = at / 16 == k % 8 ? 0x8000 >> (at % 16) : 0;
                Check.same("Terms: K" + k + " of key bit " + bit, due, words[k]);
            }
        }
    }

    /** "Numbers of 16 bits": no word is negative, none has more bits. */
    private static void wordsOfCipher4HaveSixteenBits() {
        keyed(4, -1, -1);
        for (int k = 0; k < 52; k++) {
            Check.same("Terms: K" + k, 0xffff, words[k]);
        }
    }

    /**
     * "x * y modulo 65537, 0 standing for 65536 in x, y and what comes of it". In each of the places A, D, E, F and the
     * two at the end: x is 0, y is 0, both are, the product is and neither of them is.
     */
    private static void cipher4WithZerosInProducts() {
        met = new boolean[6 * 4];
        Random random = new Random(4);
        long[][] keys = {{0, 0}, {Cabinet.FIRST, Cabinet.SECOND}};
        for (long[] key : keys) {
            for (int object = 0; object < 1000; object++) {
                RuleCiphers cabinet = keyed(4, key[0], key[1]);
                for (int i = 0; i < BLOCKS_OF_AN_OBJECT; i++) {
                    long block = random.nextLong();
                    Check.same("Terms: cipher 4", on4(block), cabinet.block(0, false, block));
                }
            }
        }
        allMet("Terms: product");
        knownProducts();
    }

    private static long product(int place, long x, long y) {
        long answer = (x == 0 ? 65536 : x) * (y == 0 ? 65536 : y) % 65537 % 65536;
        if (x == 0 && y == 0) {
            met[4 * place + 2] = true;
        } else if (x == 0 || y == 0) {
            met[4 * place + (x == 0 ? 0 : 1)] = true;
        } else if (answer == 0) {
            met[4 * place + 3] = true;
        }
        return answer;
    }

    private static long on4(long block) {
        long[] q = {block >>> 48, (block >>> 32) & 0xffff, (block >>> 16) & 0xffff, block & 0xffff};
        for (int k = 0; k < 48; k += 6) {
            long a = product(0, q[0], words[k]);
            long b = (q[1] + words[k + 1]) % 65536;
            long c = (q[2] + words[k + 2]) % 65536;
            long d = product(1, q[3], words[k + 3]);
            long e = product(2, a ^ c, words[k + 4]);
            long f = product(3, (e + (b ^ d)) % 65536, words[k + 5]);
            long g = (e + f) % 65536;
            q = new long[] {a ^ f, c ^ f, b ^ g, d ^ g};
        }
        long front = product(4, q[0], words[48]) * 65536 + (q[2] + words[49]) % 65536;
        long behind = (q[1] + words[50]) % 65536 * 65536 + product(5, q[3], words[51]);
        return (front << 32) | behind;
    }

    /** By hand: with a key of zeros every product of 0 is 1 and every product of 1 is 0. */
    private static void knownProducts() {
        RuleCiphers cabinet = Cabinet.keyed(0, 4, 0, 0);
        Check.same("Terms: products of zeros", 0x0001000100000000L, cabinet.block(0, false, 0));
        Check.same("Terms: products of zeros, back", 0, cabinet.block(0, true, 0x0001000100000000L));
    }

    /** "Numbers of 16 bits, added modulo 2^16": the greatest words and quarters, where every sum goes beyond. */
    private static void cipher4WrapsAtSixteenBits() {
        met = new boolean[6 * 4];
        for (long half : new long[] {-1, 0x7fff80007fff8000L, 0x0001ffff0001ffffL}) {
            RuleCiphers cabinet = keyed(4, half, ~Cabinet.FIRST | half);
            for (long block : new long[] {-1, 0x0000ffffffff0000L, 0x8000800080008000L, 0xfffefffefffefffeL}) {
                Check.same("Terms: sums of cipher 4", on4(block), cabinet.block(0, false, block));
                Check.same("Terms: sums of cipher 4, back", block, cabinet.block(0, true, on4(block)));
            }
        }
    }
}
