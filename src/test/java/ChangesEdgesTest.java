/** The boundary cases of the promises 1 to 8: the new object, loco, lift, noise, order, frame, shorts, pass. */
public final class ChangesEdgesTest {
    private static final int LEAST = Integer.MIN_VALUE;
    private static final int MOST = Integer.MAX_VALUE;
    private static final int NOBODY = Scene.NOBODY;

    public static void main(String[] args) {
        aNewObjectIsEmpty();
        locoTakes();
        locoRefusesValues();
        locoRefusesALikeOne();
        locoRefusesANinth();
        locosAreKeptByAddress();
        aNewLocoHasNothingOfAnOldOne();
        liftTakes();
        liftRefuses();
        locoAndLiftLeaveAllElse();
        noiseTakes();
        noiseRefuses();
        orderTakes();
        orderRefusesValues();
        orderRefusesA21st();
        frameTakes();
        frameRefuses();
        frameIsHeardBySoMany();
        shortsTake();
        shortsRefuse();
        passTakes();
        passRefuses();
        passUpTo99999();
        Due.end();
    }

    /** Promise 1. */
    private static void aNewObjectIsEmpty() {
        LocoFrames x = new LocoFrames();
        Due.is("no loco", x.address(0), LocoFrames.NO_SUCH);
        Due.is("lift of none", x.lift(1), LocoFrames.NO_SUCH);
        Due.is("frame to all", x.frame(0, 0, 0), 0);
        Due.is("pass(1) without orders", x.pass(1), 0);
        Due.is("save(0)", x.save(0), 0);
        Due.is("wipe()", x.wipe(), 0);
        Due.is("carryOut()", x.carryOut(), LocoFrames.BAD_TEXT);
        Due.is("two changes", x.count(11), 2);
        LocoFrames y = new LocoFrames();
        Due.is("another object has nothing of it", y.count(0), 0);
        Due.is("nor its slots", y.restore(0), LocoFrames.NOT_POSSIBLE);
        Due.is("nor its history", y.undo(), LocoFrames.NOT_POSSIBLE);
    }

    /** Promise 2: the least and the greatest of each argument. */
    private static void locoTakes() {
        int[][] good = {{1, 10, 0, 400}, {99, 10, 0, 400}, {30, 1, 0, 400}, {30, 20, 0, 400}, {30, 10, 0, 400},
            {30, 10, 1, 400}, {30, 10, 2, 400}, {30, 10, 0, 0}, {30, 10, 0, 799}};
        for (int[] g : good) {
            LocoFrames x = new LocoFrames();
            String call = "loco(" + g[0] + ", " + g[1] + ", " + g[2] + ", " + g[3] + ")";
            Due.is(call, x.loco(g[0], g[1], g[2], g[3]), 1);
            Due.is(call + ": address", x.address(0), g[0]);
            int[] due = {g[1], g[2], g[3], 0, 1000, 1000, 0, 1, 0, g[3] / 100, 0, 1000};
            for (int what = 0; what < 12; what++) {
                Due.is(call + ": of " + what, x.of(g[0], what), due[what]);
            }
            Due.is(call + ": a change", x.count(11), 1);
        }
    }

    /** Out of range comes before a like address, and before 8 that are there. */
    private static void locoRefusesValues() {
        int[] addresses = {0, 100, -1, LEAST, MOST};
        for (int address : addresses) {
            Scene.refused("loco(" + address + ", 1, 0, 0)", x -> x.loco(address, 1, 0, 0), LocoFrames.BAD_VALUE);
        }
        int[][] bad = {{0, 0, 0}, {21, 0, 0}, {-1, 0, 0}, {LEAST, 0, 0}, {MOST, 0, 0}, {1, -1, 0}, {1, 3, 0},
            {1, LEAST, 0}, {1, MOST, 0}, {1, 0, -1}, {1, 0, 800}, {1, 0, LEAST}, {1, 0, MOST}};
        for (int[] b : bad) {
            String rest = ", " + b[0] + ", " + b[1] + ", " + b[2] + ")";
            for (Scene scene : Scene.values()) {
                int like = scene.someLoco();
                scene.refusedHere("loco(50" + rest, x -> x.loco(NOBODY, b[0], b[1], b[2]), LocoFrames.BAD_VALUE);
                scene.refusedHere("loco(" + like + rest, x -> x.loco(like, b[0], b[1], b[2]), LocoFrames.BAD_VALUE);
            }
        }
    }

    /** A like address comes before 8 that are there; a loco that was lifted is none. */
    private static void locoRefusesALikeOne() {
        int[] busy = {2, 4, 60};
        for (int address : busy) {
            Scene.BUSY.refusedHere("like " + address, x -> x.loco(address, 1, 0, 0), LocoFrames.NOT_POSSIBLE);
            Scene.LATER.refusedHere("like " + address, x -> x.loco(address, 1, 0, 0), LocoFrames.NOT_POSSIBLE);
        }
        for (int address = 11; address <= 18; address++) {
            int like = address;
            Scene.FULL.refusedHere("like " + like, x -> x.loco(like, 1, 0, 0), LocoFrames.NOT_POSSIBLE);
        }
        LocoFrames x = new LocoFrames();
        x.loco(5, 5, 0, 5);
        Due.is("like the only one", x.loco(5, 5, 0, 5), LocoFrames.NOT_POSSIBLE);
        x.lift(5);
        Due.is("like none any more", x.loco(5, 5, 0, 5), 1);
        x.undo();
        x.undo();
        Due.is("there again", x.loco(5, 5, 0, 5), LocoFrames.NOT_POSSIBLE);
    }

    private static void locoRefusesANinth() {
        LocoFrames x = new LocoFrames();
        for (int i = 1; i <= 8; i++) {
            Due.is("number " + i, x.loco(10 * i, 1, 0, 0), i);
        }
        for (int address = 5; address <= 95; address += 10) {
            Due.is("a ninth, " + address, x.loco(address, 1, 0, 0), LocoFrames.TOO_MANY);
        }
        Due.is("still 8", x.count(1), 8);
        Scene.FULL.refusedHere("loco(1)", y -> y.loco(1, 1, 0, 0), LocoFrames.TOO_MANY);
        Scene.FULL.refusedHere("loco(99)", y -> y.loco(99, 20, 2, 799), LocoFrames.TOO_MANY);
        x.lift(80);
        Due.is("an eighth again", x.loco(5, 1, 0, 0), 8);
        Due.is("a ninth again", x.loco(6, 1, 0, 0), LocoFrames.TOO_MANY);
    }

    /** A new one first, in the middle and last: the others stay what they were. */
    private static void locosAreKeptByAddress() {
        int[] added = {1, 3, 50, 99};
        for (int address : added) {
            LocoFrames x = Scene.BUSY.made();
            LocoFrames y = Scene.BUSY.made();
            Due.is("loco(" + address + ")", x.loco(address, 13, 1, 123), 4);
            Due.is("its mass", x.of(address, 0), 13);
            Due.is("its place", x.of(address, 2), 123);
            int[] others = {2, 4, 60};
            for (int other : others) {
                for (int what = 0; what < 12; what++) {
                    Due.is(other + " beside " + address + ": " + what, x.of(other, what), y.of(other, what));
                }
            }
            int last = 0;
            for (int rank = 0; rank < 4; rank++) {
                Due.is("rank " + rank + " is above the one before", x.address(rank) > last ? 1 : 0, 1);
                last = x.address(rank);
            }
            Due.is("no fifth", x.address(4), LocoFrames.NO_SUCH);
            Due.is("lift(" + address + ")", x.lift(address), 3);
            Due.same("as before, without " + address, Due.seen(x), Due.seen(y));
        }
    }

    /** At rest, forwards, and nothing heard, also where one was that went round, and was lifted. */
    private static void aNewLocoHasNothingOfAnOldOne() {
        for (int address = 7; address <= 8; address++) {
            LocoFrames x = new LocoFrames();
            x.loco(7, 8, LocoFrames.FAST, 5);
            x.frame(7, 28, 7 ^ 28);
            x.frame(7, 67, 7 ^ 67);
            x.pass(98);
            x.frame(7, 5, 7 ^ 5);
            x.pass(1);
            // By 7 in a tick: 5740 tenths in 40 ticks, 58 times 280 more, and 273: from 50 to -22203.
            Due.is("it went round", x.of(7, 11), 997);
            Due.is("it is between two places", x.of(7, 3), 7);
            x.lift(7);
            x.loco(address, 3, LocoFrames.SLOW, 640);
            int[] due = {3, 1, 640, 0, 1000, 1000, 0, 1, 0, 6, 0, 1000};
            for (int what = 0; what < 12; what++) {
                Due.is("of(" + address + ", " + what + ")", x.of(address, what), due[what]);
            }
            x.pass(1);
            Due.is("it stands", x.of(address, 2), 640);
        }
    }

    /** Promise 3: from 8 to none, the first, the last and one between. */
    private static void liftTakes() {
        LocoFrames x = Scene.FULL.made();
        int[] lifted = {11, 18, 14, 12, 17, 13, 16, 15};
        for (int i = 0; i < 8; i++) {
            Due.is("lift(" + lifted[i] + ")", x.lift(lifted[i]), 7 - i);
            Due.is("it is gone", x.of(lifted[i], 0), LocoFrames.NO_SUCH);
            Due.is("lift(" + lifted[i] + ") again", x.lift(lifted[i]), LocoFrames.NO_SUCH);
            Due.is("so many are left", x.count(1), 7 - i);
            for (int j = i + 1; j < 8; j++) {
                Due.is("mass of " + lifted[j], x.of(lifted[j], 0), 2 * (18 - lifted[j]) + 1);
            }
        }
        Due.is("no speed is left", x.count(9), 10000);
        Due.is("no block has two", x.count(8), 0);
        Due.is("the orders wait", x.count(2), 20);
        Due.is("undo() brings one back", x.undo(), 5);
        Due.is("the last one", x.address(0), 15);
    }

    private static void liftRefuses() {
        int[] bad = {NOBODY, 0, 1, 10, 19, 99, 100, -1, LEAST, MOST};
        for (int address : bad) {
            Scene.refused("lift(" + address + ")", x -> x.lift(address), LocoFrames.NO_SUCH);
        }
    }

    /** Ticks, shorts, orders, NOISE, and when noise spoiled last, stay as the only loco goes and comes. */
    private static void locoAndLiftLeaveAllElse() {
        LocoFrames x = new LocoFrames();
        x.loco(7, 1, LocoFrames.EVEN, 50);
        x.noise(4);
        x.pass(4);
        x.order(7, 64, 0);
        x.pass(3);
        x.frame(7, 1, 1);
        x.shorts(5, 60);
        x.order(7, 65, 1);
        x.order(0, 66, 3);
        int[] due = {7, 0, 2, 4, 2, 2, 1, 1, 0, 10000, 0, 6};
        Due.is("lift(7)", x.lift(7), 0);
        for (int what = 0; what < 12; what++) {
            Due.is("without locos: count(" + what + ")", x.count(what), due[what]);
        }
        due[1] = 1;
        Due.is("loco(8)", x.loco(8, 1, LocoFrames.EVEN, 50), 1);
        for (int what = 0; what < 12; what++) {
            Due.is("with another one: count(" + what + ")", x.count(what), due[what]);
        }
        Due.is("block(5, 0)", x.block(5, 0), 60);
        Due.is("the tick 7", x.pass(1), 1);
        Due.is("it is not spoiled", x.of(8, 8), 2);
        Due.is("the tick 8", x.pass(1), 1);
        Due.is("it is spoiled, four ticks after that of the tick 4", x.count(6), 2);
    }

    /** Promise 4. */
    private static void noiseTakes() {
        LocoFrames x = new LocoFrames();
        int last = 0;
        int[] good = {0, 9, 9, 0, 1, 8, 2, 7, 3, 6, 4, 5};
        for (int ticks : good) {
            Due.is("noise(" + ticks + ")", x.noise(ticks), last);
            Due.is("NOISE is " + ticks, x.count(3), ticks);
            last = ticks;
        }
    }

    private static void noiseRefuses() {
        int[] bad = {-1, 10, LEAST, MOST};
        for (int ticks : bad) {
            Scene.refused("noise(" + ticks + ")", x -> x.noise(ticks), LocoFrames.BAD_VALUE);
        }
    }

    /** Promise 5: the least and the greatest of each argument. */
    private static void orderTakes() {
        int[][] good = {{0, 100, 1}, {99, 100, 1}, {5, 0, 1}, {5, 255, 1}, {5, 100, 0}, {5, 100, 3}};
        LocoFrames x = new LocoFrames();
        for (int i = 0; i < good.length; i++) {
            int[] g = good[i];
            Due.is("order(" + g[0] + ", " + g[1] + ", " + g[2] + ")", x.order(g[0], g[1], g[2]), i + 1);
            LocoFrames y = new LocoFrames();
            y.order(g[0], g[1], g[2]);
            for (int what = 0; what < 3; what++) {
                Due.is("of it " + what, y.waiting(0, what), g[what]);
            }
            Due.is("it comes to the track", y.pass(1), 1);
            Due.is("it is whole", y.count(5), 0);
        }
    }

    /** Out of range comes before 20 that wait. */
    private static void orderRefusesValues() {
        int[][] bad = {{-1, 0, 0}, {100, 0, 0}, {255, 0, 0}, {LEAST, 0, 0}, {MOST, 0, 0}, {1, -1, 0}, {1, 256, 0},
            {1, LEAST, 0}, {1, MOST, 0}, {1, 0, -1}, {1, 0, 4}, {1, 0, LEAST}, {1, 0, MOST}};
        for (int[] b : bad) {
            String call = "order(" + b[0] + ", " + b[1] + ", " + b[2] + ")";
            Scene.refused(call, x -> x.order(b[0], b[1], b[2]), LocoFrames.BAD_VALUE);
        }
    }

    private static void orderRefusesA21st() {
        for (int urgency = 0; urgency <= 3; urgency++) {
            int u = urgency;
            Scene.FULL.refusedHere("a 21st, urgency " + u, x -> x.order(0, 0, u), LocoFrames.TOO_MANY);
        }
        LocoFrames x = new LocoFrames();
        for (int i = 1; i <= 20; i++) {
            Due.is("number " + i, x.order(i, i, 2), i);
        }
        Due.is("a 21st", x.order(21, 21, 3), LocoFrames.TOO_MANY);
        Due.is("20 wait", x.count(2), 20);
        Due.is("the first is the first", x.waiting(0, 0), 1);
        x.pass(1);
        Due.is("a 20th again", x.order(21, 21, 3), 20);
        Due.is("it is the first", x.waiting(0, 0), 21);
        Due.is("the last is the last", x.waiting(19, 0), 20);
        Due.is("a 21st again", x.order(22, 22, 3), LocoFrames.TOO_MANY);
    }

    /** Promise 6: the least and the greatest of each argument. */
    private static void frameTakes() {
        int[][] good = {{0, 7, 7}, {255, 7, 248}, {7, 0, 7}, {7, 255, 248}, {7, 7, 0}, {0, 255, 255}, {255, 255, 0},
            {255, 0, 255}, {100, 1, 101}};
        for (int[] g : good) {
            LocoFrames x = new LocoFrames();
            x.loco(1, 1, 0, 0);
            String call = "frame(" + g[0] + ", " + g[1] + ", " + g[2] + ")";
            Due.is(call, x.frame(g[0], g[1], g[2]), g[0] == 0 ? 1 : 0);
            Due.is(call + ": counted", x.count(4), 1);
            Due.is(call + ": whole", x.count(5), 0);
            Due.is(call + ": a change", x.count(11), 2);
        }
        LocoFrames y = new LocoFrames();
        Due.is("frame(255, 255, 255)", y.frame(255, 255, 255), 0);
        Due.is("it is not whole", y.count(5), 1);
    }

    private static void frameRefuses() {
        int[] bad = {-1, 256, LEAST, MOST};
        for (int b : bad) {
            Scene.refused("frame(" + b + ", 0, 0)", x -> x.frame(b, 0, 0), LocoFrames.BAD_VALUE);
            Scene.refused("frame(4, " + b + ", 4)", x -> x.frame(4, b, 4), LocoFrames.BAD_VALUE);
            Scene.refused("frame(4, 4, " + b + ")", x -> x.frame(4, 4, b), LocoFrames.BAD_VALUE);
            Scene.refused("frame that would be whole, but for " + b, x -> x.frame(b, 4, b ^ 4), LocoFrames.BAD_VALUE);
            Scene.refused("a datum of " + b + " with its check", x -> x.frame(4, b, b ^ 4), LocoFrames.BAD_VALUE);
            Scene.refused("all three are " + b, x -> x.frame(b, b, b), LocoFrames.BAD_VALUE);
        }
    }

    /** Returns how many locos hear it: from none to 8. */
    private static void frameIsHeardBySoMany() {
        LocoFrames x = new LocoFrames();
        for (int i = 0; i < 8; i++) {
            Due.is("to all " + i, x.frame(0, 64, 64), i);
            x.loco(1 + i * 14, 1, 0, 100 * i);
        }
        Due.is("to all 8", x.frame(0, 65, 65), 8);
        for (int i = 0; i < 8; i++) {
            Due.is("heard by number " + i, x.of(1 + i * 14, 10), 8 - i);
        }
        for (int i = 0; i < 8; i++) {
            Due.is("to number " + i, x.frame(1 + i * 14, 66, 1 + i * 14 ^ 66), 1);
            x.shorts(i, 99);
            Due.is("to number " + i + " in a short", x.frame(1 + i * 14, 67, 1 + i * 14 ^ 67), 0);
            Due.is("its lights", x.of(1 + i * 14, 8), 2);
            Due.is("to all but those in a short", x.frame(0, 64 + 2, 66), 7 - i);
        }
    }

    /** Promise 7: the first and the last block, the least and the greatest number of ticks. */
    private static void shortsTake() {
        for (int block = 0; block < 8; block++) {
            LocoFrames x = new LocoFrames();
            int last = 0;
            int[] good = {0, 99, 98, 99, 1, 2, 1, 0, 0, 1, 50, 51, 99};
            for (int ticks : good) {
                Due.is("shorts(" + block + ", " + ticks + ")", x.shorts(block, ticks), last);
                for (int other = 0; other < 8; other++) {
                    Due.is("block(" + other + ", 0)", x.block(other, 0), other == block ? ticks : 0);
                }
                Due.is("count(7)", x.count(7), ticks > 0 ? 1 : 0);
                last = ticks;
            }
            Due.is("each is a change", x.count(11), 6);
            x.pass(99);
            Due.is("it lasted 99 ticks", x.count(7), 0);
        }
    }

    /** No such block comes before ticks that are out of range. */
    private static void shortsRefuse() {
        int[] noBlock = {-1, 8, LEAST, MOST};
        int[] noTicks = {-1, 100, LEAST, MOST};
        for (int block : noBlock) {
            Scene.refused("shorts(" + block + ", 5)", x -> x.shorts(block, 5), LocoFrames.NO_SUCH);
            for (int ticks : noTicks) {
                Scene.refused("shorts(" + block + ", " + ticks + ")", x -> x.shorts(block, ticks), LocoFrames.NO_SUCH);
            }
        }
        for (int ticks : noTicks) {
            for (int block = 0; block < 8; block += 7) {
                int b = block;
                Scene.refused("shorts(" + b + ", " + ticks + ")", x -> x.shorts(b, ticks), LocoFrames.BAD_VALUE);
            }
        }
    }

    /** Promise 8. */
    private static void passTakes() {
        LocoFrames x = new LocoFrames();
        Due.is("pass(1)", x.pass(1), 0);
        Due.is("a tick", x.count(0), 1);
        Due.is("pass(99)", x.pass(99), 0);
        Due.is("100 ticks", x.count(0), 100);
        Due.is("two changes", x.count(11), 2);
        x.shorts(2, 99);
        x.pass(60);
        Due.is("a short is 60 ticks shorter, also without locos", x.block(2, 0), 39);
        LocoFrames y = Scene.FULL.made();
        Due.is("20 orders, 19 ticks", y.pass(19), 19);
        Due.is("one waits", y.count(2), 1);
        Due.is("it and no more", y.pass(2), 1);
        LocoFrames z = Scene.FULL.made();
        Due.is("20 orders, 20 ticks", z.pass(20), 20);
        LocoFrames v = Scene.FULL.made();
        Due.is("20 orders, 21 ticks", v.pass(21), 20);
        Due.is("of them are spoiled, with NOISE 1", v.count(6), 21);
    }

    private static void passRefuses() {
        int[] bad = {0, -1, 100, LEAST, MOST};
        for (int ticks : bad) {
            Scene.refused("pass(" + ticks + ")", x -> x.pass(ticks), LocoFrames.BAD_VALUE);
        }
    }

    /** Beyond the 512 calls for which answers are promised: no shorter run of calls gets there. */
    private static void passUpTo99999() {
        LocoFrames x = new LocoFrames();
        x.loco(1, 1, LocoFrames.EVEN, 0);
        for (int i = 0; i < 1009; i++) {
            x.pass(99);
        }
        x.save(0);
        Due.is("99891 ticks", x.count(0), 99891);
        Due.is("pass(99)", x.pass(99), 0);
        Due.is("99990 ticks", x.count(0), 99990);
        String before = Due.whole(x);
        for (int ticks = 10; ticks <= 99; ticks++) {
            Due.is("pass(" + ticks + ")", x.pass(ticks), LocoFrames.NOT_POSSIBLE);
        }
        Due.refused(x, before, "pass(0)", x.pass(0), LocoFrames.BAD_VALUE);
        Due.refused(x, before, "pass(100)", x.pass(100), LocoFrames.BAD_VALUE);
        Due.write(x, "t4;t5;t1;t1");
        Due.is("two orders of a text, and none behind the bound", x.carryOut(), 2);
        Due.is("99999 ticks", x.count(0), 99999);
        before = Due.whole(x);
        Due.refused(x, before, "pass(1)", x.pass(1), LocoFrames.NOT_POSSIBLE);
        Due.refused(x, before, "pass(99)", x.pass(99), LocoFrames.NOT_POSSIBLE);
        Due.refused(x, before, "pass(0) at the bound", x.pass(0), LocoFrames.BAD_VALUE);
        Due.refused(x, before, "pass(100) at the bound", x.pass(100), LocoFrames.BAD_VALUE);
        x.loco(2, 1, LocoFrames.EVEN, 100);
        x.frame(1, 129, 128);
        Due.is("reaches() minds no bound", x.reaches(1, 1), 100);
        Due.is("meets() minds no bound", x.meets(1, 2), 100);
        Due.is("settles() minds no bound", x.settles(1), 1);
        Due.is("restore(0)", x.restore(0), 1);
        Due.is("pass(99) again", x.pass(99), 0);
        Due.is("pass(9) again", x.pass(9), 0);
        Due.is("pass(1) again", x.pass(1), LocoFrames.NOT_POSSIBLE);
    }
}
