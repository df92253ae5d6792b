import java.util.function.Supplier;
import java.util.function.ToLongFunction;

/**
 * Objects in which much stands, made anew as often as wanted, and the question whether a call left one
 * of them as it was. Two like ones are asked for everything that the questions tell, and then for what
 * only later calls bring out: the history, the slots, when noise spoiled last, what stands on the pad.
 */
enum Scene {
    /** A new object. */
    FRESH,
    /** Three locos (2, 4, 60) on their way, orders, shorts, noise; three changes to undo, both slots, a text. */
    BUSY,
    /** The same, later: the history is full, and its oldest states were dropped. */
    LATER,
    /** 8 locos (11 to 18), 20 orders, 80 characters, a full history; slot 0 is empty. */
    FULL;

    /** No scene has a loco with this address. */
    static final int NOBODY = 50;
    private static final int VIEWS = 5;

    LocoFrames made() {
        switch (this) {
            case FRESH: return new LocoFrames();
            case BUSY: return busy(false);
            case LATER: return busy(true);
            default: return full();
        }
    }

    /** The address of a loco in this scene, 0 if there is none. */
    int someLoco() {
        return this == FRESH ? 0 : this == FULL ? 18 : 4;
    }

    private static LocoFrames busy(boolean later) {
        LocoFrames x = new LocoFrames();
        x.loco(4, 7, LocoFrames.FAST, 780);
        x.save(1);
        x.loco(2, 3, LocoFrames.SLOW, 310);
        x.loco(60, 20, LocoFrames.EVEN, 305);
        x.frame(0, 128 + 17, 145);
        x.frame(4, 5, 4 ^ 5);
        x.frame(0, 66, 66);
        x.frame(2, 9, 3);
        x.noise(3);
        for (int i = 0; i < 8; i++) {
            x.order(i % 3 * 2, 60 + i, i % 4);
        }
        Due.write(x, "t4;s3*5;s7*50");
        x.carryOut();
        x.save(0);
        if (!later) {
            for (int i = 0; i < 6; i++) {
                x.undo();
            }
            Due.write(x, "o4:65!1;o0:66!2;o2:67!3;t4;s3*5;s7*50");
            x.carryOut();
            x.shorts(0, 0);
            x.frame(60, 67, 60 ^ 67);
        }
        Due.write(x, "o4:148!3;t1;s3*2");
        return x;
    }

    private static LocoFrames full() {
        LocoFrames x = new LocoFrames();
        for (int i = 0; i < 8; i++) {
            x.loco(18 - i, 2 * i + 1, i % 3, 97 * i);
        }
        x.frame(0, 128 + 28, 156);
        x.frame(13, 20, 13 ^ 20);
        x.noise(1);
        x.save(1);
        for (int i = 0; i < 22; i++) {
            x.order(i % 2 * 13, 130 + i, i % 4);
            if (i == 5 || i == 10) {
                x.pass(1);
            }
        }
        Due.write(x, "s6*0;" + Due.repeated("t12;", 18) + "t13");
        return x;
    }

    /** A call that returns an error changes nothing, in each scene. */
    static void refused(String call, ToLongFunction<LocoFrames> called, long due) {
        for (Scene scene : values()) {
            scene.refusedHere(call, called, due);
        }
    }

    void refusedHere(String call, ToLongFunction<LocoFrames> called, long due) {
        refusedBy(this::made, this + ": " + call, called, due);
    }

    /** Each view is had of an object of its own, so that none of them is used for more than 512 calls. */
    static void refusedBy(Supplier<LocoFrames> maker, String call, ToLongFunction<LocoFrames> called, long due) {
        for (int view = 0; view < VIEWS; view++) {
            LocoFrames x = maker.get();
            Due.is(call, called.applyAsLong(x), due);
            Due.same("the object after " + call, viewed(x, view), viewed(maker.get(), view));
        }
    }

    /** A call that is a question changes nothing, whatever it answers. */
    void askedHere(String call, ToLongFunction<LocoFrames> called) {
        for (int view = 0; view < VIEWS; view++) {
            LocoFrames x = made();
            long first = called.applyAsLong(x);
            Due.is(this + ": " + call + " a second time", called.applyAsLong(x), first);
            Due.same(this + ": the object after " + call, viewed(x, view), viewed(made(), view));
        }
    }

    private static String viewed(LocoFrames x, int view) {
        switch (view) {
            case 0: return Due.whole(x);
            case 1: return past(x);
            case 2: return slots(x);
            case 3: return noise(x);
            default: return pad(x);
        }
    }

    /** All states that undo() goes back to, and its answers, to the first one that is an error. */
    static String past(LocoFrames x) {
        StringBuilder all = new StringBuilder();
        int left = x.count(11);
        for (int i = 0; i <= left; i++) {
            all.append(x.undo()).append(": ").append(brief(x));
        }
        return all.toString();
    }

    /** Much of what Due.seen() tells, in at most 34 calls. */
    static String brief(LocoFrames x) {
        StringBuilder all = new StringBuilder();
        for (int what = 0; what < 10; what++) {
            all.append(x.count(what)).append(' ');
        }
        for (int rank = 0; rank < 8; rank++) {
            int address = x.address(rank);
            all.append(address).append(' ').append(x.of(address, 2)).append(' ').append(x.of(address, 10)).append(' ');
        }
        return all.toString();
    }

    private static String slots(LocoFrames x) {
        int first = x.restore(0);
        String seen = Due.seen(x);
        int second = x.restore(1);
        return first + ": " + seen + " / " + second + ": " + Due.seen(x);
    }

    private static String noise(LocoFrames x) {
        StringBuilder all = new StringBuilder();
        for (int i = 0; i < 20; i++) {
            all.append(x.order(0, 64, 3)).append(' ').append(x.pass(1)).append(' ').append(x.count(6)).append(' ');
        }
        return all + Due.seen(x);
    }

    private static String pad(LocoFrames x) {
        int fault = x.fault();
        int carried = x.carryOut();
        String seen = Due.whole(x);
        return fault + " " + carried + " " + seen + " " + x.undo() + " " + Due.seen(x);
    }
}
