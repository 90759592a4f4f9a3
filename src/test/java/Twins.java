import java.util.ArrayList;
import java.util.List;

/**
 * Two objects that live through the same calls, but for one call that only the first of them gets. Whether it changed
 * anything is seen by asking both for all that the document's calls tell.
 */
final class Twins {
    interface Act {
        void on(RuleCiphers cabinet);
    }

    interface Question {
        long of(RuleCiphers cabinet);
    }

    private static final int MOST_WORDS = 52;

    /**
     * What the look asks for comes in three orders, each on objects of their own: a question that changed something
     * itself would hide that the call did, but not where it comes later. The buffer is told at last, as every byte of
     * it shows through a feed.
     */
    private static final int ORDERS = 3;

    private Twins() {
    }

    /** The call throws, and changes nothing. */
    static void refused(String what, String exception, Act before, Act call) {
        for (int order = 0; order < ORDERS; order++) {
            RuleCiphers asked = made(before);
            Check.same(what, exception, outcome(call, asked));
            compare(what, order, asked, made(before));
        }
    }

    /** The call answers, and changes nothing. */
    static void unchanged(String what, long answer, Act before, Question call) {
        for (int order = 0; order < ORDERS; order++) {
            RuleCiphers asked = made(before);
            Check.same(what, Long.toString(answer), Check.outcome(() -> call.of(asked)));
            compare(what, order, asked, made(before));
        }
    }

    private static RuleCiphers made(Act before) {
        RuleCiphers cabinet = new RuleCiphers();
        before.on(cabinet);
        return cabinet;
    }

    private static String outcome(Act call, RuleCiphers cabinet) {
        return Check.outcome(() -> {
            call.on(cabinet);
            return 0;
        });
    }

    private static void compare(String what, int order, RuleCiphers asked, RuleCiphers left) {
        List<String> got = allTold(order, asked);
        List<String> due = allTold(order, left);
        int same = 0;
        while (same < due.size() && due.get(same).equals(got.get(same))) {
            same++;
        }
        String none = "nothing changed";
        Check.same(what + ", then", none, same == due.size() ? none : got.get(same) + " and not " + due.get(same));
    }

    /** 320 calls, which leaves room for what came before within the 512 that an object is used for. */
    private static List<String> allTold(int order, RuleCiphers cabinet) {
        List<String> told = new ArrayList<>();
        for (int part = 0; part < ORDERS; part++) {
            for (int context = 0; context < 4; context++) {
                partTold((order + part) % ORDERS, told, cabinet, context);
            }
        }
        for (int context = 0; context < 4; context++) {
            cipherTold(told, cabinet, context);
        }
        told.add("the buffer is " + Cabinet.buffer(cabinet));
        return told;
    }

    private static void partTold(int part, List<String> told, RuleCiphers cabinet, int context) {
        if (part == 0) {
            feedTold(told, cabinet, context);
        } else if (part == 1) {
            tagTold(told, cabinet, context);
        } else {
            keyTold(told, cabinet, context);
        }
    }

    private static void feedTold(List<String> told, RuleCiphers cabinet, int context) {
        String of = " of context " + context + " is ";
        int from = 16 * context;
        told.add("feed" + of + Check.outcome(() -> cabinet.feed(context, false, from, 8)));
        told.add("feed back" + of + Check.outcome(() -> cabinet.feed(context, true, from + 8, 8)));
        told.add("seek" + of + outcome(x -> x.seek(context, 0), cabinet));
        told.add("feed after seek" + of + Check.outcome(() -> cabinet.feed(context, false, from, 8)));
    }

    private static void tagTold(List<String> told, RuleCiphers cabinet, int context) {
        String of = " of context " + context + " is ";
        told.add("take" + of + Check.outcome(() -> cabinet.take(context, 16 * context, 3)));
        told.add("tag" + of + Check.outcome(() -> cabinet.tag(context)));
        told.add("second tag" + of + Check.outcome(() -> cabinet.tag(context)));
    }

    private static void keyTold(List<String> told, RuleCiphers cabinet, int context) {
        String of = " of context " + context + " is ";
        told.add("stage" + of + cabinet.stage(context));
        for (int i = 0; i < MOST_WORDS; i++) {
            int word = i;
            told.add("word " + i + of + Check.outcome(() -> cabinet.word(context, word)));
        }
        told.add("block on" + of + Check.outcome(() -> cabinet.block(context, false, 5)));
        told.add("block back" + of + Check.outcome(() -> cabinet.block(context, true, 5)));
    }

    /** A CHOSEN context shows its cipher only when it gets a key. */
    private static void cipherTold(List<String> told, RuleCiphers cabinet, int context) {
        String of = " of context " + context + " is ";
        told.add("key" + of + outcome(x -> x.key(context, 1, 2), cabinet));
        told.add("block with another key" + of + Check.outcome(() -> cabinet.block(context, false, 5)));
    }
}
