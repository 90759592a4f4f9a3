/**
 * Where a call is looked at: a filled buffer, a context 0 in any stage or mode and in the midst of its work, and three
 * busy contexts beside it.
 */
final class Scene {
    static final int FREE = 0;
    static final int CHOSEN = 1;
    static final int KEYED = 2;
    static final int COUNT = 9;
    static final long START = 0x1122334455667788L;

    private Scene() {
    }

    static int set(int mode) {
        return 3 + mode;
    }

    static String name(int scene) {
        String[] stages = {"FREE", "CHOSEN", "KEYED"};
        return scene < 3 ? stages[scene] : "SET to mode " + (scene - 3);
    }

    static void play(RuleCiphers cabinet, int scene) {
        Cabinet.fill(cabinet);
        busy(cabinet, 1, 4, 3, 13);
        busy(cabinet, 2, 0, 5, 11);
        busy(cabinet, 3, 1, 4, 21);
        if (scene >= CHOSEN) {
            cabinet.choose(0, 3);
        }
        if (scene >= KEYED) {
            cabinet.key(0, Cabinet.FIRST, Cabinet.SECOND);
        }
        if (scene > KEYED) {
            cabinet.mode(0, scene - 3, START);
            work(cabinet, 0, scene - 3, scene - 3 < 2 ? 16 : 13);
        }
    }

    private static void busy(RuleCiphers cabinet, int context, int cipher, int mode, int many) {
        cabinet.choose(context, cipher);
        cabinet.key(context, Cabinet.SECOND + context, Cabinet.FIRST);
        cabinet.mode(context, mode, -context);
        work(cabinet, context, mode, many);
    }

    private static void work(RuleCiphers cabinet, int context, int mode, int many) {
        if (mode == 5) {
            cabinet.take(context, 7, many);
        } else {
            cabinet.feed(context, false, 7, many);
        }
    }
}
