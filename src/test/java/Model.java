import java.math.BigInteger;
import java.util.ArrayList;
import java.util.List;

/**
 * The document once more, written for plainness alone and in other ways than the class: words are longs below 2^32,
 * keys and blocks are BigIntegers or rows of bytes, and a tag is made of the whole list of bytes that were taken in.
 */
final class Model {
    private static final long M = 0xffffffffL;
    private static final long P = 0xb7e15163L;
    private static final long Q = 0x9e3779b9L;
    private static final BigInteger PRIME = BigInteger.valueOf(65537);
    private static final String Z = "11011011101011000110010111100000010010001010011100110100001111";

    private static final class Place {
        int stage;
        int cipher;
        long[] words;
        int mode;
        long v;
        long w;
        int n;
        int fed;
        List<Integer> taken;
    }

    private final Place[] places = {new Place(), new Place(), new Place(), new Place()};
    private final int[] buffer = new int[64];

    void choose(int context, int cipher) {
        Place place = at(context);
        refuseArgument(cipher < 0 || cipher > 4);
        refuseState(place.stage != 0);
        place.cipher = cipher;
        place.stage = 1;
    }

    void key(int context, long first, long second) {
        Place place = at(context);
        refuseState(place.stage == 0);
        place.words = schedule(place.cipher, first, second);
        place.stage = 2;
    }

    void mode(int context, int mode, long start) {
        Place place = at(context);
        refuseArgument(mode < 0 || mode > 5);
        refuseState(place.stage < 2);
        place.stage = 3;
        place.mode = mode;
        place.v = start;
        place.w = start;
        place.n = 0;
        place.fed = 0;
        place.taken = new ArrayList<>();
    }

    void free(int context) {
        at(context).stage = 0;
    }

    int stage(int context) {
        return at(context).stage;
    }

    long block(int context, boolean back, long block) {
        Place place = at(context);
        refuseState(place.stage < 2);
        return run(place, back, block);
    }

    int word(int context, int i) {
        Place place = at(context);
        refuseState(place.stage < 2);
        return i >= 0 && i < place.words.length ? (int) place.words[i] : -1;
    }

    void put(int place, int b) {
        refuseBounds(place < 0 || place > 63);
        buffer[place] = b & 255;
    }

    int get(int place) {
        refuseBounds(place < 0 || place > 63);
        return buffer[place];
    }

    int feed(int context, boolean back, int from, int many) {
        Place place = at(context);
        refuseBounds(!inBuffer(from, many));
        refuseState(place.stage != 3 || place.mode == 5);
        refuseArgument(place.mode < 2 && many % 8 != 0);
        if (place.mode < 2) {
            for (int i = from; i < from + many; i += 8) {
                feedBlock(place, back, i);
            }
        } else {
            for (int i = from; i < from + many; i++) {
                feedByte(place, back, i);
            }
        }
        place.fed += many;
        return place.fed;
    }

    void seek(int context, long blocks) {
        Place place = at(context);
        refuseState(place.stage != 3 || place.mode != 4);
        place.w = place.v + blocks;
        place.n = 0;
    }

    int take(int context, int from, int many) {
        Place place = at(context);
        refuseBounds(!inBuffer(from, many));
        refuseState(place.stage != 3 || place.mode != 5);
        for (int i = from; i < from + many; i++) {
            place.taken.add(buffer[i]);
        }
        return place.taken.size();
    }

    long tag(int context) {
        Place place = at(context);
        refuseState(place.stage != 3 || place.mode != 5);
        List<Integer> bytes = place.taken;
        place.taken = new ArrayList<>();
        long z1 = doubled(run(place, false, 0));
        long mask = z1;
        if (bytes.isEmpty() || bytes.size() % 8 != 0) {
            mask = doubled(z1);
            bytes.add(128);
            while (bytes.size() % 8 != 0) {
                bytes.add(0);
            }
        }
        long t = 0;
        for (int i = 0; i < bytes.size(); i += 8) {
            long block = 0;
            for (int j = i; j < i + 8; j++) {
                block = block * 256 + bytes.get(j);
            }
            t = run(place, false, t ^ block ^ (i + 8 == bytes.size() ? mask : 0));
        }
        return t;
    }

    private Place at(int context) {
        refuseBounds(context < 0 || context > 3);
        return places[context];
    }

    private static boolean inBuffer(long from, long many) {
        if (many < 0) {
            return false;
        }
        return many == 0 || (0 <= from && from + many - 1 <= 63);
    }

    private static void refuseBounds(boolean wrong) {
        if (wrong) {
            throw new IndexOutOfBoundsException();
        }
    }

    private static void refuseArgument(boolean wrong) {
        if (wrong) {
            throw new IllegalArgumentException();
        }
    }

    private static void refuseState(boolean wrong) {
        if (wrong) {
            throw new IllegalStateException();
        }
    }

    private static long doubled(long z) {
        BigInteger twice = new BigInteger(Long.toUnsignedString(z)).shiftLeft(1);
        return twice.testBit(64) ? twice.longValue() ^ 27 : twice.longValue();
    }

    private void feedBlock(Place place, boolean back, int at) {
        long was = 0;
        for (int i = 0; i < 8; i++) {
            was = was * 256 + buffer[at + i];
        }
        long becomes;
        if (place.mode == 0) {
            becomes = run(place, back, was);
        } else if (back) {
            becomes = run(place, true, was) ^ place.w;
            place.w = was;
        } else {
            becomes = run(place, false, was ^ place.w);
            place.w = becomes;
        }
        for (int i = 0; i < 8; i++) {
            buffer[at + i] = bytesOf(becomes)[i];
        }
    }

    private void feedByte(Place place, boolean back, int at) {
        int was = buffer[at];
        if (place.mode == 2) {
            buffer[at] ^= bytesOf(run(place, false, place.w))[0];
            place.w = place.w * 256 + (back ? was : buffer[at]);
            return;
        }
        if (place.mode == 3) {
            place.w = place.n == 0 ? run(place, false, place.w) : place.w;
            buffer[at] ^= bytesOf(place.w)[place.n];
            place.n = (place.n + 1) % 8;
            return;
        }
        buffer[at] ^= bytesOf(run(place, false, place.w))[place.n];
        place.n = (place.n + 1) % 8;
        if (place.n == 0) {
            place.w = place.w + 1;
        }
    }

    private static int[] bytesOf(long block) {
        int[] bytes = new int[8];
        long rest = block;
        for (int i = 7; i >= 0; i--) {
            bytes[i] = (int) (rest & 255);
            rest >>>= 8;
        }
        return bytes;
    }

    private static long little(long x) {
        return Integer.toUnsignedLong(Integer.reverseBytes((int) x));
    }

    private static long left(long x, long n) {
        return Integer.toUnsignedLong(Integer.rotateLeft((int) x, (int) (n & 31)));
    }

    private static long right(long x, long n) {
        return Integer.toUnsignedLong(Integer.rotateRight((int) x, (int) (n & 31)));
    }

    private static long[] schedule(int cipher, long first, long second) {
        long[] k = {first >>> 32, first & M, second >>> 32, second & M};
        switch (cipher) {
            case 0:
                return schedule0(new long[] {little(k[0]), little(k[1]), little(k[2]), little(k[3])});
            case 1:
                return k;
            case 2:
                return schedule2(k);
            case 3:
                return schedule3(k);
            default:
                return schedule4(new BigInteger(Long.toUnsignedString(first)).shiftLeft(64)
                        .add(new BigInteger(Long.toUnsignedString(second))));
        }
    }

    private static long[] schedule0(long[] l) {
        long[] s = new long[26];
        for (int i = 0; i < 26; i++) {
            s[i] = (P + i * Q) & M;
        }
        int i = 0;
        int j = 0;
        long x = 0;
        long y = 0;
        for (int step = 0; step < 78; step++) {
            s[i] = left((s[i] + x + y) & M, 3);
            x = s[i];
            l[j] = left((l[j] + x + y) & M, (x + y) & M);
            y = l[j];
            i = (i + 1) % 26;
            j = (j + 1) % 4;
        }
        return s;
    }

    private static long[] schedule2(long[] k) {
        long[] l = new long[29];
        long[] t = new long[27];
        l[2] = k[0];
        l[1] = k[1];
        l[0] = k[2];
        t[0] = k[3];
        for (int i = 0; i <= 25; i++) {
            l[i + 3] = ((t[i] + right(l[i], 8)) & M) ^ i;
            t[i + 1] = left(t[i], 3) ^ l[i + 3];
        }
        return t;
    }

    private static long[] schedule3(long[] k) {
        long[] t = new long[44];
        t[3] = k[0];
        t[2] = k[1];
        t[1] = k[2];
        t[0] = k[3];
        for (int i = 4; i <= 43; i++) {
            long u = right(t[i - 1], 3) ^ t[i - 3];
            u = u ^ right(u, 1);
            t[i] = (M - t[i - 4]) ^ u ^ (Z.charAt(i - 4) - '0') ^ 3;
        }
        return t;
    }

    private static long[] schedule4(BigInteger key) {
        BigInteger all = BigInteger.ONE.shiftLeft(128).subtract(BigInteger.ONE);
        long[] k = new long[52];
        for (int at = 0; at < 52; at++) {
            int turn = 25 * (at / 8) % 128;
            BigInteger turned = key.shiftLeft(turn).or(key.shiftRight(128 - turn)).and(all);
            k[at] = turned.shiftRight(112 - 16 * (at % 8)).longValue() & 0xffff;
        }
        return k;
    }

    private static long run(Place place, boolean back, long block) {
        long a = block >>> 32;
        long b = block & M;
        long[] k = place.words;
        long[] out;
        switch (place.cipher) {
            case 0:
                out = back ? back0(k, little(a), little(b)) : on0(k, little(a), little(b));
                return little(out[0]) << 32 | little(out[1]);
            case 1:
                out = back ? back1(k, a, b) : on1(k, a, b);
                break;
            case 2:
                out = back ? back2(k, a, b) : on2(k, a, b);
                break;
            case 3:
                out = back ? back3(k, a, b) : on3(k, a, b);
                break;
            default:
                out = new long[] {a >>> 16, a & 0xffff, b >>> 16, b & 0xffff};
                out = back ? back4(k, out) : on4(k, out);
                return out[0] << 48 | out[1] << 32 | out[2] << 16 | out[3];
        }
        return out[0] << 32 | out[1];
    }

    private static long[] on0(long[] s, long a, long b) {
        a = (a + s[0]) & M;
        b = (b + s[1]) & M;
        for (int r = 1; r <= 12; r++) {
            a = (left(a ^ b, b) + s[2 * r]) & M;
            b = (left(b ^ a, a) + s[2 * r + 1]) & M;
        }
        return new long[] {a, b};
    }

    private static long[] back0(long[] s, long a, long b) {
        for (int r = 12; r >= 1; r--) {
            b = right((b - s[2 * r + 1]) & M, a) ^ a;
            a = right((a - s[2 * r]) & M, b) ^ b;
        }
        return new long[] {(a - s[0]) & M, (b - s[1]) & M};
    }

    private static long pour(long x) {
        return ((((x << 4) & M) ^ (x >> 5)) + x) & M;
    }

    private static long[] on1(long[] k, long a, long b) {
        long s = 0;
        for (int r = 0; r < 32; r++) {
            a = (a + (pour(b) ^ ((s + k[(int) (s & 3)]) & M))) & M;
            s = (s + Q) & M;
            b = (b + (pour(a) ^ ((s + k[(int) ((s >> 11) & 3)]) & M))) & M;
        }
        return new long[] {a, b};
    }

    private static long[] back1(long[] k, long a, long b) {
        for (int r = 31; r >= 0; r--) {
            long s = ((r + 1) * Q) & M;
            b = (b - (pour(a) ^ ((s + k[(int) ((s >> 11) & 3)]) & M))) & M;
            s = (r * Q) & M;
            a = (a - (pour(b) ^ ((s + k[(int) (s & 3)]) & M))) & M;
        }
        return new long[] {a, b};
    }

    private static long[] on2(long[] t, long x, long y) {
        for (int i = 0; i <= 26; i++) {
            x = ((right(x, 8) + y) & M) ^ t[i];
            y = left(y, 3) ^ x;
        }
        return new long[] {x, y};
    }

    private static long[] back2(long[] t, long x, long y) {
        for (int i = 26; i >= 0; i--) {
            y = right(y ^ x, 3);
            x = left(((x ^ t[i]) - y) & M, 8);
        }
        return new long[] {x, y};
    }

    private static long[] on3(long[] t, long x, long y) {
        for (int i = 0; i <= 43; i++) {
            long newX = y ^ (left(x, 1) & left(x, 8)) ^ left(x, 2) ^ t[i];
            y = x;
            x = newX;
        }
        return new long[] {x, y};
    }

    private static long[] back3(long[] t, long x, long y) {
        for (int i = 43; i >= 0; i--) {
            long oldX = y;
            y = x ^ (left(oldX, 1) & left(oldX, 8)) ^ left(oldX, 2) ^ t[i];
            x = oldX;
        }
        return new long[] {x, y};
    }

    private static BigInteger widened(long x) {
        return BigInteger.valueOf(x == 0 ? 65536 : x);
    }

    private static long times(long x, long y) {
        return widened(x).multiply(widened(y)).mod(PRIME).longValue() % 65536;
    }

    private static long over(long x, long y) {
        return widened(x).multiply(widened(y).modInverse(PRIME)).mod(PRIME).longValue() % 65536;
    }

    private static long[] on4(long[] key, long[] in) {
        long a = in[0];
        long b = in[1];
        long c = in[2];
        long d = in[3];
        for (int k = 0; k < 48; k += 6) {
            a = times(a, key[k]);
            b = (b + key[k + 1]) & 0xffff;
            c = (c + key[k + 2]) & 0xffff;
            d = times(d, key[k + 3]);
            long e = times(a ^ c, key[k + 4]);
            long f = times((e + (b ^ d)) & 0xffff, key[k + 5]);
            long g = (e + f) & 0xffff;
            long wasB = b;
            a = a ^ f;
            b = c ^ f;
            c = wasB ^ g;
            d = d ^ g;
        }
        return new long[] {times(a, key[48]), (c + key[49]) & 0xffff, (b + key[50]) & 0xffff, times(d, key[51])};
    }

    private static long[] back4(long[] key, long[] in) {
        long a = over(in[0], key[48]);
        long c = (in[1] - key[49]) & 0xffff;
        long b = (in[2] - key[50]) & 0xffff;
        long d = over(in[3], key[51]);
        for (int k = 42; k >= 0; k -= 6) {
            // a ^ b is what A ^ C was, as both got ^ F; c ^ d is what B ^ D was.
            long e = times(a ^ b, key[k + 4]);
            long f = times((e + (c ^ d)) & 0xffff, key[k + 5]);
            long g = (e + f) & 0xffff;
            long wasB = b;
            a = over(a ^ f, key[k]);
            b = ((c ^ g) - key[k + 1]) & 0xffff;
            c = ((wasB ^ f) - key[k + 2]) & 0xffff;
            d = over(d ^ g, key[k + 3]);
        }
        return new long[] {a, b, c, d};
    }
}
