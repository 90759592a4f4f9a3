/** Promises 11 and 12: feed in modes 0 to 4, and seek. What is due is made of block() alone. */
final class FeedTest {
    private static final long START = 0x1122334455667788L;

    public static void main(String[] args) {
        for (int cipher = 0; cipher < 5; cipher++) {
            mode0(cipher);
            mode1(cipher);
            mode2(cipher);
            mode3(cipher);
            mode4(cipher);
            undone(cipher);
        }
        inPieces();
        counterWraps();
        counts();
        emptyFeeds();
        feedOutOfBuffer();
        feedInWrongState();
        feedNoWholeBlocks();
        orderOfExceptions();
        seek();
        seekMidBlock();
        seekWrongly();
        Check.end();
    }

    private static RuleCiphers filled(int cipher, int mode) {
        RuleCiphers cabinet = Cabinet.set(1, cipher, mode, START);
        Cabinet.fill(cabinet);
        return cabinet;
    }

    private static void mode0(int cipher) {
        RuleCiphers cabinet = filled(cipher, 0);
        long one = Cabinet.blockAt(cabinet, 5);
        long two = Cabinet.blockAt(cabinet, 13);
        Check.same("11: mode 0", 16, cabinet.feed(1, false, 5, 16));
        Check.same("11: mode 0, first block", cabinet.block(1, false, one), Cabinet.blockAt(cabinet, 5));
        Check.same("11: mode 0, second block", cabinet.block(1, false, two), Cabinet.blockAt(cabinet, 13));
        Check.same("11: mode 0, byte before", Cabinet.filling(4), cabinet.get(4));
        Check.same("11: mode 0, byte behind", Cabinet.filling(21), cabinet.get(21));
        long far = Cabinet.blockAt(cabinet, 40);
        Check.same("11: mode 0 back", 24, cabinet.feed(1, true, 40, 8));
        Check.same("11: mode 0, block back", cabinet.block(1, true, far), Cabinet.blockAt(cabinet, 40));
    }

    private static void mode1(int cipher) {
        RuleCiphers cabinet = filled(cipher, 1);
        long one = Cabinet.blockAt(cabinet, 0);
        long two = Cabinet.blockAt(cabinet, 8);
        long three = Cabinet.blockAt(cabinet, 16);
        long four = Cabinet.blockAt(cabinet, 24);
        cabinet.feed(1, false, 0, 16);
        long w = cabinet.block(1, false, one ^ START);
        Check.same("11: mode 1, first block", w, Cabinet.blockAt(cabinet, 0));
        w = cabinet.block(1, false, two ^ w);
        Check.same("11: mode 1, second block", w, Cabinet.blockAt(cabinet, 8));
        cabinet.feed(1, true, 16, 16);
        Check.same("11: mode 1 back", cabinet.block(1, true, three) ^ w, Cabinet.blockAt(cabinet, 16));
        Check.same("11: mode 1 back again", cabinet.block(1, true, four) ^ three, Cabinet.blockAt(cabinet, 24));
        Check.same("11: mode 1, byte behind", Cabinet.filling(32), cabinet.get(32));
    }

    private static void mode2(int cipher) {
        RuleCiphers cabinet = filled(cipher, 2);
        cabinet.feed(1, false, 3, 10);
        cabinet.feed(1, true, 13, 10);
        long w = START;
        for (int place = 3; place < 23; place++) {
            int was = Cabinet.filling(place);
            int becomes = was ^ Cabinet.byteOf(cabinet.block(1, false, w), 0);
            Check.same("11: mode 2, place " + place, becomes, cabinet.get(place));
            w = w << 8 | (place < 13 ? becomes : was);
        }
        Check.same("11: mode 2, byte behind", Cabinet.filling(23), cabinet.get(23));
    }

    private static void mode3(int cipher) {
        RuleCiphers cabinet = filled(cipher, 3);
        cabinet.feed(1, false, 1, 21);
        long w = START;
        for (int i = 0; i < 21; i++) {
            w = i % 8 == 0 ? cabinet.block(1, false, w) : w;
            int due = Cabinet.filling(1 + i) ^ Cabinet.byteOf(w, i % 8);
            Check.same("11: mode 3, byte " + i, due, cabinet.get(1 + i));
        }
        Check.same("11: mode 3, byte before", Cabinet.filling(0), cabinet.get(0));
        Check.same("11: mode 3, byte behind", Cabinet.filling(22), cabinet.get(22));
    }

    private static void mode4(int cipher) {
        RuleCiphers cabinet = filled(cipher, 4);
        cabinet.feed(1, false, 43, 21);
        for (int i = 0; i < 21; i++) {
            long stream = cabinet.block(1, false, START + i / 8);
            int due = Cabinet.filling(43 + i) ^ Cabinet.byteOf(stream, i % 8);
            Check.same("11: mode 4, byte " + i, due, cabinet.get(43 + i));
        }
        Check.same("11: mode 4, byte before", Cabinet.filling(42), cabinet.get(42));
    }

    private static void undone(int cipher) {
        for (int mode = 0; mode < 5; mode++) {
            RuleCiphers cabinet = filled(cipher, mode);
            String before = Cabinet.buffer(cabinet);
            cabinet.feed(1, false, 0, 64);
            String hidden = Cabinet.buffer(cabinet);
            Check.same("11: mode " + mode + " does something", 0, before.equals(hidden) ? 1 : 0);
            cabinet.mode(1, mode, START);
            cabinet.feed(1, true, 0, 64);
            Check.same("11: mode " + mode + " back undoes on", before, Cabinet.buffer(cabinet));
        }
    }

    private static void inPieces() {
        for (int mode = 2; mode < 5; mode++) {
            for (int cut = 0; cut <= 64; cut++) {
                RuleCiphers whole = filled(2, mode);
                RuleCiphers pieces = filled(2, mode);
                whole.feed(1, false, 0, 64);
                pieces.feed(1, false, 0, cut);
                Check.same("11: in pieces", 64, pieces.feed(1, false, cut, 64 - cut));
                Check.same("11: mode " + mode + " cut at " + cut, Cabinet.buffer(whole), Cabinet.buffer(pieces));
            }
        }
    }

    private static void counterWraps() {
        RuleCiphers cabinet = Cabinet.set(0, 1, 4, -1);
        cabinet.feed(0, false, 0, 16);
        Check.same("11: mode 4 at 2^64 - 1", cabinet.block(0, false, -1), Cabinet.blockAt(cabinet, 0));
        Check.same("11: mode 4 behind 2^64 - 1", cabinet.block(0, false, 0), Cabinet.blockAt(cabinet, 8));
    }

    private static void counts() {
        RuleCiphers cabinet = Cabinet.set(0, 0, 4, 0);
        for (int call = 1; call <= 500; call++) {
            Check.same("11: fed in all", 64 * call, cabinet.feed(0, call % 2 == 0, 0, 64));
        }
    }

    private static void emptyFeeds() {
        for (int mode = 0; mode < 5; mode++) {
            RuleCiphers cabinet = filled(3, mode);
            String before = Cabinet.buffer(cabinet);
            for (int from : new int[] {0, 63, 64}) {
                Check.same("11: nothing fed", 0, cabinet.feed(1, false, from, 0));
                Check.same("11: nothing fed back", 0, cabinet.feed(1, true, from, 0));
            }
            // No byte is named here, so none is outside the buffer.
            for (int from : new int[] {65, -1, Integer.MIN_VALUE, Integer.MAX_VALUE}) {
                Check.fine("11: no bytes from anywhere", () -> cabinet.feed(1, false, from, 0));
            }
            Check.same("11: nothing changes", before, Cabinet.buffer(cabinet));
            RuleCiphers other = filled(3, mode);
            other.feed(1, false, 0, 64);
            cabinet.feed(1, false, 0, 64);
            Check.same("11: nor does the mode", Cabinet.buffer(other), Cabinet.buffer(cabinet));
        }
    }

    private static void feedOutOfBuffer() {
        int[][] spans = {{60, 8}, {0, 72}, {-8, 8}, {-1, 8}, {64, 8}, {57, 8}, {0, -8}, {8, -8}, {64, -1}, {0, -1},
            {Integer.MAX_VALUE, 8}, {8, Integer.MAX_VALUE}, {Integer.MAX_VALUE, Integer.MAX_VALUE},
            {Integer.MIN_VALUE, Integer.MIN_VALUE}, {Integer.MIN_VALUE, 8}, {0, Integer.MIN_VALUE},
            {0x7ffffff8, 0x7ffffff8}, {-2147483640, 2147483640}, {-64, 128}, {63, 2}, {0, 65}, {64, 1}};
        for (int mode = 0; mode < 5; mode++) {
            RuleCiphers cabinet = filled(4, mode);
            String before = Cabinet.buffer(cabinet);
            for (int[] span : spans) {
                Check.outOfBounds("11: not in the buffer", () -> cabinet.feed(1, false, span[0], span[1]));
                Check.outOfBounds("11: not in the buffer, back", () -> cabinet.feed(1, true, span[0], span[1]));
            }
            Check.same("11: a call that threw leaves the buffer", before, Cabinet.buffer(cabinet));
            Check.same("11: and the count", 8, cabinet.feed(1, false, 56, 8));
        }
        for (int none : Cabinet.NO_CONTEXTS) {
            Check.outOfBounds("11: no such context", () -> filled(4, 4).feed(none, false, 0, 8));
        }
    }

    private static void feedInWrongState() {
        RuleCiphers cabinet = new RuleCiphers();
        Check.badState("11: free", () -> cabinet.feed(0, false, 0, 8));
        cabinet.choose(0, 0);
        Check.badState("11: chosen", () -> cabinet.feed(0, false, 0, 8));
        cabinet.key(0, 0, 0);
        Check.badState("11: keyed", () -> cabinet.feed(0, true, 0, 8));
        cabinet.mode(0, 5, 0);
        Check.badState("11: mode 5", () -> cabinet.feed(0, false, 0, 8));
        Check.badState("11: mode 5, no whole block", () -> cabinet.feed(0, false, 0, 7));
        Check.badState("11: mode 5, no bytes", () -> cabinet.feed(0, true, 0, 0));
        Check.same("11: the buffer stays", 0, cabinet.get(0));
    }

    private static void feedNoWholeBlocks() {
        for (int many = 0; many <= 64; many++) {
            int count = many;
            for (int mode = 0; mode < 5; mode++) {
                RuleCiphers cabinet = filled(1, mode);
                String before = Cabinet.buffer(cabinet);
                if (mode < 2 && many % 8 != 0) {
                    Check.badArgument("11: " + many + " bytes", () -> cabinet.feed(1, false, 0, count));
                    Check.badArgument("11: " + many + " bytes back", () -> cabinet.feed(1, true, 0, count));
                    Check.same("11: a call that threw", before, Cabinet.buffer(cabinet));
                } else {
                    Check.same("11: " + many + " bytes", many, cabinet.feed(1, false, 0, many));
                }
            }
        }
    }

    private static void orderOfExceptions() {
        RuleCiphers cabinet = new RuleCiphers();
        Check.outOfBounds("11: no context before not set", () -> cabinet.feed(4, false, 0, 7));
        Check.outOfBounds("11: not in the buffer before not set", () -> cabinet.feed(0, false, 60, 7));
        cabinet.choose(0, 0);
        cabinet.key(0, 0, 0);
        Check.badState("11: not set before no whole block", () -> cabinet.feed(0, false, 0, 7));
        cabinet.mode(0, 0, 0);
        Check.outOfBounds("11: not in the buffer before no whole block", () -> cabinet.feed(0, false, 60, 7));
        Check.outOfBounds("11: below 0 before no whole block", () -> cabinet.feed(0, false, 0, -7));
        cabinet.mode(0, 5, 0);
        Check.outOfBounds("11: not in the buffer before mode 5", () -> cabinet.feed(0, false, 60, 7));
    }

    private static void seek() {
        long[] places = {0, 1, 7, -1, Long.MAX_VALUE, Long.MIN_VALUE, -START};
        for (long blocks : places) {
            RuleCiphers cabinet = Cabinet.set(2, 2, 4, START);
            cabinet.seek(2, blocks);
            Check.same("12: what feed answers", 16, cabinet.feed(2, false, 0, 16));
            long w = START + blocks;
            Check.same("12: block " + blocks, cabinet.block(2, false, w), Cabinet.blockAt(cabinet, 0));
            Check.same("12: block behind " + blocks, cabinet.block(2, false, w + 1), Cabinet.blockAt(cabinet, 8));
        }
    }

    private static void seekMidBlock() {
        RuleCiphers cabinet = Cabinet.set(2, 0, 4, START);
        cabinet.feed(2, false, 0, 13);
        cabinet.seek(2, 3);
        cabinet.seek(2, 2);
        Cabinet.putBlock(cabinet, 0, 0);
        Check.same("12: how many were fed stays", 21, cabinet.feed(2, true, 0, 8));
        Check.same("12: from V, not from W", cabinet.block(2, false, START + 2), Cabinet.blockAt(cabinet, 0));
    }

    private static void seekWrongly() {
        RuleCiphers cabinet = new RuleCiphers();
        for (int none : Cabinet.NO_CONTEXTS) {
            Check.outOfBounds("12: no such context", () -> cabinet.seek(none, 0));
        }
        Check.badState("12: free", () -> cabinet.seek(0, 0));
        cabinet.choose(0, 0);
        Check.badState("12: chosen", () -> cabinet.seek(0, 0));
        cabinet.key(0, 0, 0);
        Check.badState("12: keyed", () -> cabinet.seek(0, 0));
        for (int mode : new int[] {0, 1, 2, 3, 5}) {
            cabinet.mode(0, mode, 0);
            Check.badState("12: mode " + mode, () -> cabinet.seek(0, 0));
        }
        RuleCiphers disturbed = filled(3, 3);
        disturbed.feed(1, false, 0, 5);
        Check.badState("12: mode 3, halfway", () -> disturbed.seek(1, 0));
        disturbed.feed(1, false, 5, 59);
        RuleCiphers left = filled(3, 3);
        left.feed(1, false, 0, 64);
        Check.same("12: a call that threw", Cabinet.buffer(left), Cabinet.buffer(disturbed));
    }
}
