/** Promises 9 and 10: put and get. */
final class BufferTest {
    private static final int[] NO_PLACES = {-1, 64, 65, Integer.MIN_VALUE, Integer.MAX_VALUE};

    public static void main(String[] args) {
        everyPlace();
        lowEightBits();
        wrongPlaces();
        Check.end();
    }

    private static void everyPlace() {
        RuleCiphers cabinet = new RuleCiphers();
        Cabinet.fill(cabinet);
        for (int place = 0; place < 64; place++) {
            Check.same("9, 10: place " + place, Cabinet.filling(place), cabinet.get(place));
        }
        cabinet.put(63, 1);
        Check.same("9: put again", 1, cabinet.get(63));
        Check.same("9: its neighbour stays", Cabinet.filling(62), cabinet.get(62));
    }

    private static void lowEightBits() {
        RuleCiphers cabinet = new RuleCiphers();
        int[] put = {0, 127, 128, 255, 256, 257, -1, -128, -256, Integer.MAX_VALUE, Integer.MIN_VALUE, 0x12345678};
        int[] due = {0, 127, 128, 255, 0, 1, 255, 128, 0, 255, 0, 0x78};
        for (int i = 0; i < put.length; i++) {
            cabinet.put(i, put[i]);
            Check.same("9: put " + put[i], due[i], cabinet.get(i));
        }
    }

    private static void wrongPlaces() {
        RuleCiphers cabinet = new RuleCiphers();
        Cabinet.fill(cabinet);
        String before = Cabinet.buffer(cabinet);
        for (int none : NO_PLACES) {
            Check.outOfBounds("9: no such place", () -> cabinet.put(none, 1));
            Check.outOfBounds("10: no such place", () -> cabinet.get(none));
        }
        Check.same("9: a call that threw changes nothing", before, Cabinet.buffer(cabinet));
    }
}
