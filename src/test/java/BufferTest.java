/** Promises 9 and 10: put and get. What they refuse is in RefusalTest. */
final class BufferTest {
    public static void main(String[] args) {
        everyPlace();
        firstAndLastPlace();
        lowEightBits();
        putLeavesTheContexts();
        getIsNeverNegative();
        getChangesNothing();
        Check.end();
    }

    /** "The BUFFER has 64 bytes". */
    private static void everyPlace() {
        RuleCiphers cabinet = new RuleCiphers();
        Cabinet.fill(cabinet);
        for (int place = 0; place < 64; place++) {
            Check.same("9, 10: place " + place, Cabinet.filling(place), cabinet.get(place));
        }
    }

    /** Promises 9 and 10: places 0 and 63 are there, and no other byte changes with them. */
    private static void firstAndLastPlace() {
        for (int place : new int[] {0, 63}) {
            RuleCiphers cabinet = new RuleCiphers();
            cabinet.put(place, 1);
            for (int other = 0; other < 64; other++) {
                Check.same("9: put(" + place + "), then byte " + other, other == place ? 1 : 0, cabinet.get(other));
            }
            cabinet.put(place, 2);
            Check.same("9: put(" + place + ") again", 2, cabinet.get(place));
        }
    }

    /** Promise 9: "A byte of the buffer becomes b & 255." */
    private static void lowEightBits() {
        RuleCiphers cabinet = new RuleCiphers();
        int[] put = {0, 127, 128, 255, 256, 257, -1, -128, -129, -256, Integer.MAX_VALUE, Integer.MIN_VALUE, 0x1278};
        int[] due = {0, 127, 128, 255, 0, 1, 255, 128, 127, 0, 255, 0, 0x78};
        for (int i = 0; i < put.length; i++) {
            cabinet.put(i, put[i]);
            Check.same("9: put " + put[i], due[i], cabinet.get(i));
        }
    }

    private static void putLeavesTheContexts() {
        for (int scene = 0; scene < Scene.COUNT; scene++) {
            int here = scene;
            Twins.unchanged("9: put, and put back, when " + Scene.name(scene), 0, x -> Scene.play(x, here), x -> {
                int was = x.get(5);
                x.put(5, ~was);
                x.put(5, was);
                return 0;
            });
        }
    }

    /** Promise 10: "A byte of the buffer, 0 .. 255", also where a feed wrote it. */
    private static void getIsNeverNegative() {
        for (int mode = 0; mode < 5; mode++) {
            RuleCiphers cabinet = Cabinet.set(0, 1, mode, 3);
            Cabinet.fill(cabinet);
            cabinet.feed(0, false, 0, 64);
            int high = 0;
            for (int place = 0; place < 64; place++) {
                int got = cabinet.get(place);
                Check.same("10: byte " + place + " after mode " + mode, got & 255, got);
                high += got > 127 ? 1 : 0;
            }
            Check.same("10: bytes above 127 were met", 1, high > 0 ? 1 : 0);
        }
    }

    private static void getChangesNothing() {
        int last = Cabinet.filling(63);
        Twins.unchanged("10: get", last, x -> Scene.play(x, Scene.set(3)), x -> x.get(63));
    }
}
