import java.util.function.ToLongFunction;

/** The boundary cases of the promises 9 to 17: of, address, waiting, block, count, reaches, settles, meets, stepFor. */
public final class AnswersEdgesTest {
    private static final int LEAST = Integer.MIN_VALUE;
    private static final int MOST = Integer.MAX_VALUE;
    private static final int NOBODY = Scene.NOBODY;
    private static final int[] OUT_OF_RANGE = {-1, LEAST, MOST};
    private static final int[] NO_ADDRESS = {NOBODY, 0, 1, 10, 19, 59, 61, 99, 100, -1, LEAST, MOST};

    public static void main(String[] args) {
        ofRefuses();
        ofTheFirstAndTheLast();
        addressRefuses();
        waitingRefuses();
        waitingUpToTheLast();
        blockRefuses();
        countRefuses();
        countOfCrowdedBlocks();
        countOfChanges();
        questionsChangeNothing();
        reachesRefuses();
        reachesWhereItIs();
        reachesEitherWay();
        reachesIn1000();
        reachesBehindAShort();
        settlesRefuses();
        settlesForEveryMass();
        settlesWhereTicksPass();
        settlesWithoutOrdersAndShorts();
        meetsRefuses();
        meetsWhereTheyAre();
        meetsIn1000();
        meetsAcrossTheSeam();
        stepForRefuses();
        stepForEveryTenth();
        Due.end();
    }

    private static void sent(LocoFrames x, int address, int datum) {
        x.frame(address, datum, address ^ datum);
    }

    /** Promise 9: no such loco comes before a what that is out of range. */
    private static void ofRefuses() {
        for (int address : NO_ADDRESS) {
            for (int what = -1; what <= 12; what++) {
                int w = what;
                Scene.refused("of(" + address + ", " + w + ")", x -> x.of(address, w), LocoFrames.NO_SUCH);
            }
        }
        int[] bad = {-1, 12, LEAST, MOST};
        for (int what : bad) {
            for (Scene scene : Scene.values()) {
                int there = scene.someLoco();
                String call = "of(" + there + ", " + what + ")";
                int due = scene == Scene.FRESH ? LocoFrames.NO_SUCH : LocoFrames.BAD_VALUE;
                scene.refusedHere(call, x -> x.of(there, what), due);
            }
        }
    }

    private static void ofTheFirstAndTheLast() {
        LocoFrames x = Scene.FULL.made();
        for (int address = 11; address <= 18; address++) {
            Due.is("the first, mass of " + address, x.of(address, 0), 2 * (18 - address) + 1);
            Due.is("the last, rounds of " + address, x.of(address, 11), 1000);
        }
        LocoFrames y = new LocoFrames();
        y.loco(1, 1, 0, 0);
        y.loco(99, 20, 2, 799);
        Due.is("mass of 1", y.of(1, 0), 1);
        Due.is("mass of 99", y.of(99, 0), 20);
        Due.is("place of 99", y.of(99, 2), 799);
        y.lift(1);
        Due.is("mass of 1 that was lifted", y.of(1, 0), LocoFrames.NO_SUCH);
        Due.is("mass of 99 still", y.of(99, 0), 20);
    }

    /** Promise 10. */
    private static void addressRefuses() {
        for (int rank : OUT_OF_RANGE) {
            Scene.refused("address(" + rank + ")", x -> x.address(rank), LocoFrames.NO_SUCH);
        }
        for (Scene scene : Scene.values()) {
            int locos = scene.made().count(1);
            for (int rank = locos; rank <= 9; rank++) {
                int r = rank;
                scene.refusedHere("address(" + r + ")", x -> x.address(r), LocoFrames.NO_SUCH);
            }
        }
        LocoFrames x = Scene.FULL.made();
        for (int rank = 0; rank < 8; rank++) {
            Due.is("address(" + rank + ")", x.address(rank), 11 + rank);
        }
        x.lift(11);
        Due.is("address(0) without the first", x.address(0), 12);
        Due.is("address(6)", x.address(6), 18);
        Due.is("address(7)", x.address(7), LocoFrames.NO_SUCH);
    }

    /** Promise 11: no such order comes before a what that is out of range. */
    private static void waitingRefuses() {
        int[] bad = {-1, 3, LEAST, MOST};
        for (Scene scene : Scene.values()) {
            int orders = scene.made().count(2);
            int[] none = {orders, orders + 1, 20, -1, LEAST, MOST};
            for (int rank : none) {
                for (int what = -1; what <= 3; what++) {
                    int w = what;
                    scene.refusedHere("waiting(" + rank + ", " + w + ")", x -> x.waiting(rank, w), LocoFrames.NO_SUCH);
                }
            }
            for (int what : bad) {
                int due = scene == Scene.FRESH ? LocoFrames.NO_SUCH : LocoFrames.BAD_VALUE;
                scene.refusedHere("waiting(0, " + what + ")", x -> x.waiting(0, what), due);
                if (orders > 0) {
                    scene.refusedHere("waiting(last, " + what + ")", x -> x.waiting(orders - 1, what), due);
                }
            }
        }
    }

    private static void waitingUpToTheLast() {
        LocoFrames x = new LocoFrames();
        for (int i = 0; i < 20; i++) {
            Due.is("before it comes, rank " + i, x.waiting(i, 0), LocoFrames.NO_SUCH);
            x.order(i, 200 + i, 1);
            Due.is("when it came, rank " + i, x.waiting(i, 0), i);
            Due.is("its datum", x.waiting(i, 1), 200 + i);
            Due.is("its urgency", x.waiting(i, 2), 1);
        }
        for (int left = 19; left >= 0; left--) {
            x.pass(1);
            Due.is("the last one of " + left, x.waiting(left - 1, 0), left > 0 ? 19 : LocoFrames.NO_SUCH);
            Due.is("behind the last one of " + left, x.waiting(left, 0), LocoFrames.NO_SUCH);
        }
    }

    /** Promise 12: no such block comes before a what that is out of range. */
    private static void blockRefuses() {
        int[] none = {-1, 8, LEAST, MOST};
        int[] bad = {-1, 2, LEAST, MOST};
        for (int block : none) {
            Scene.refused("block(" + block + ", 0)", x -> x.block(block, 0), LocoFrames.NO_SUCH);
            Scene.refused("block(" + block + ", 1)", x -> x.block(block, 1), LocoFrames.NO_SUCH);
            for (int what : bad) {
                Scene.refused("block(" + block + ", " + what + ")", x -> x.block(block, what), LocoFrames.NO_SUCH);
            }
        }
        for (int what : bad) {
            Scene.refused("block(0, " + what + ")", x -> x.block(0, what), LocoFrames.BAD_VALUE);
            Scene.refused("block(7, " + what + ")", x -> x.block(7, what), LocoFrames.BAD_VALUE);
        }
        LocoFrames x = Scene.FULL.made();
        int[] locos = {1, 2, 1, 1, 1, 1, 1, 0};
        for (int block = 0; block < 8; block++) {
            Due.is("block(" + block + ", 1)", x.block(block, 1), locos[block]);
        }
    }

    /** Promise 13. */
    private static void countRefuses() {
        int[] bad = {-1, 12, LEAST, MOST};
        for (int what : bad) {
            Scene.refused("count(" + what + ")", x -> x.count(what), LocoFrames.BAD_VALUE);
        }
        int[] due = {2, 8, 20, 1, 4, 1, 1, 0, 1, 10238, 80, 6};
        LocoFrames x = Scene.FULL.made();
        for (int what = 0; what < 12; what++) {
            Due.is("FULL: count(" + what + ")", x.count(what), due[what]);
        }
    }

    /** Blocks in which two locos or more are: from none to four, and one with all eight. */
    private static void countOfCrowdedBlocks() {
        LocoFrames x = new LocoFrames();
        for (int i = 0; i < 8; i++) {
            x.loco(1 + i, 1, 0, 50 + 200 * (i % 4));
            Due.is("crowded with " + (i + 1), x.count(8), Math.max(0, i - 3));
        }
        LocoFrames y = new LocoFrames();
        for (int i = 0; i < 8; i++) {
            y.loco(1 + i, 1, 0, 700 + i);
            Due.is("in one block, " + (i + 1), y.count(8), i > 0 ? 1 : 0);
            Due.is("block(7, 1)", y.block(7, 1), i + 1);
        }
        LocoFrames z = new LocoFrames();
        for (int i = 0; i < 8; i++) {
            z.shorts(i, 1);
            Due.is("blocks with a short", z.count(7), i + 1);
        }
        z.pass(1);
        Due.is("none with a short", z.count(7), 0);
    }

    private static void countOfChanges() {
        LocoFrames x = new LocoFrames();
        for (int i = 1; i <= 8; i++) {
            x.noise(i);
            Due.is("changes after " + i, x.count(11), Math.min(i, 6));
        }
        for (int i = 5; i >= 0; i--) {
            x.undo();
            Due.is("changes left", x.count(11), i);
        }
        x.undo();
        Due.is("none is left", x.count(11), 0);
    }

    /** What there is and what if: nothing changes, whatever is answered. */
    private static void questionsChangeNothing() {
        for (Scene scene : Scene.values()) {
            int one = scene.someLoco();
            int other = scene == Scene.FULL ? 14 : 2;
            for (int i = 0; i < 12; i++) {
                int n = i;
                scene.askedHere("of(.., " + n + ")", x -> x.of(one, n));
                scene.askedHere("address(" + n + ")", x -> x.address(n));
                scene.askedHere("waiting(" + n + ", " + n % 3 + ")", x -> x.waiting(n, n % 3));
                scene.askedHere("block(" + n + ", " + n % 2 + ")", x -> x.block(n, n % 2));
                scene.askedHere("count(" + n + ")", x -> x.count(n));
                scene.askedHere("reaches(.., " + n + ")", x -> x.reaches(one, n));
                scene.askedHere("stepFor(.., " + n * 25 + ")", x -> x.stepFor(one, n * 25));
            }
            scene.askedHere("settles(..)", x -> x.settles(one));
            scene.askedHere("meets(one, other)", x -> x.meets(one, other));
            scene.askedHere("meets(other, one)", x -> x.meets(other, one));
            scene.askedHere("fault()", LocoFrames::fault);
        }
    }

    /** Promise 14. */
    private static void reachesRefuses() {
        int[] none = {-1, 8, LEAST, MOST};
        for (int address : NO_ADDRESS) {
            Scene.refused("reaches(" + address + ", 0)", x -> x.reaches(address, 0), LocoFrames.NO_SUCH);
            Scene.refused("reaches(" + address + ", 7)", x -> x.reaches(address, 7), LocoFrames.NO_SUCH);
            Scene.refused("reaches(" + address + ", 8)", x -> x.reaches(address, 8), LocoFrames.NO_SUCH);
        }
        for (Scene scene : Scene.values()) {
            int there = scene.someLoco();
            for (int block : none) {
                String call = "reaches(" + there + ", " + block + ")";
                scene.refusedHere(call, x -> x.reaches(there, block), LocoFrames.NO_SUCH);
            }
        }
    }

    /** 0 if it is, and NONE for all others if it stands. */
    private static void reachesWhereItIs() {
        for (int block = 0; block < 8; block++) {
            LocoFrames x = new LocoFrames();
            x.loco(1, 1, 0, 100 * block);
            x.loco(2, 1, 0, 100 * block + 99);
            for (int other = 0; other < 8; other++) {
                int due = other == block ? 0 : LocoFrames.NONE;
                Due.is("from the first place of " + block + ": reaches " + other, x.reaches(1, other), due);
                Due.is("from the last place of " + block + ": reaches " + other, x.reaches(2, other), due);
            }
        }
    }

    private static void reachesEitherWay() {
        for (int block = 0; block < 8; block++) {
            LocoFrames x = new LocoFrames();
            x.loco(1, 1, LocoFrames.EVEN, 100 * block + 40);
            sent(x, 1, 129);
            for (int on = 1; on < 8; on++) {
                int then = x.reaches(1, (block + on) % 8);
                Due.is("from " + block + ", " + on + " forwards", then, 100 * on - 40);
            }
            sent(x, 1, 1);
            for (int on = 1; on < 8; on++) {
                // A unit in a tick, from 40: 41 ticks until it is at 99 of the block behind.
                int then = x.reaches(1, (block + 8 - on) % 8);
                Due.is("from " + block + ", " + on + " backwards", then, 100 * on - 59);
            }
        }
    }

    /** A tenth of a unit in a tick: 1000 ticks are just not too many. */
    private static void reachesIn1000() {
        for (int more = 0; more <= 1; more++) {
            LocoFrames x = new LocoFrames();
            x.loco(1, 20, LocoFrames.SLOW, 700);
            x.order(9, 0, 3);
            sent(x, 1, 128 + 2);
            if (more == 1) {
                // A first tick in which it stands still.
                x.shorts(7, 1);
            }
            Due.is("in 1000 ticks and " + more, x.reaches(1, 0), more == 0 ? 1000 : LocoFrames.NONE);
            x.pass(1);
            Due.is("a tick later", x.reaches(1, 0), 999 + more);
            x.pass(99);
            Due.is("100 ticks later", x.reaches(1, 0), 900 + more);
            Due.is("all the way round", x.reaches(1, 6), LocoFrames.NONE);
        }
        LocoFrames y = new LocoFrames();
        y.loco(1, 20, LocoFrames.SLOW, 99);
        sent(y, 1, 2);
        // 99 units are 990 tenths; 991 are needed.
        Due.is("backwards in 991 ticks", y.reaches(1, 7), 991);
    }

    private static void reachesBehindAShort() {
        for (int ticks = 0; ticks <= 99; ticks += 33) {
            LocoFrames x = new LocoFrames();
            x.loco(1, 1, LocoFrames.EVEN, 795);
            sent(x, 1, 129);
            x.shorts(7, ticks);
            Due.is("behind a short of " + ticks, x.reaches(1, 0), ticks + 5);
            x.shorts(0, 99);
            Due.is("into a short", x.reaches(1, 0), ticks + 5);
            Due.is("through a short", x.reaches(1, 1), Math.max(ticks + 5, 99) + 100);
        }
    }

    /** Promise 15. */
    private static void settlesRefuses() {
        for (int address : NO_ADDRESS) {
            Scene.refused("settles(" + address + ")", x -> x.settles(address), LocoFrames.NO_SUCH);
        }
    }

    /** From rest to the greatest speed, and from one end to the other, for each mass. */
    private static void settlesForEveryMass() {
        int[] up = {5, 10, 14, 19, 24, 28, 35, 40, 47, 47, 56, 56, 70, 70, 70, 94, 94, 94, 94, 94};
        int[] over = {10, 19, 28, 38, 47, 56, 70, 80, 94, 94, 112, 112, 140, 140, 140, 187, 187, 187, 187, 187};
        for (int mass = 1; mass <= 20; mass++) {
            LocoFrames x = new LocoFrames();
            x.loco(1, mass, LocoFrames.EVEN, 0);
            Due.is("mass " + mass + " at rest", x.settles(1), 0);
            sent(x, 1, 156);
            Due.is("mass " + mass + " to 280", x.settles(1), up[mass - 1]);
            x.pass(99);
            Due.is("mass " + mass + " at 280", x.settles(1), 0);
            sent(x, 1, 28);
            Due.is("mass " + mass + " from 280 to -280", x.settles(1), over[mass - 1]);
            x.pass(99);
            x.pass(99);
            Due.is("mass " + mass + " at -280", x.settles(1), 0);
            sent(x, 1, 128);
            Due.is("mass " + mass + " from -280 to 0", x.settles(1), up[mass - 1]);
            sent(x, 1, 31);
            Due.is("mass " + mass + " stopped", x.settles(1), 0);
        }
    }

    /** The ticks that settles() tells are those that pass. */
    private static void settlesWhereTicksPass() {
        for (int mass = 1; mass <= 20; mass++) {
            LocoFrames x = new LocoFrames();
            x.loco(1, mass, LocoFrames.SLOW, 0);
            sent(x, 1, 128 + 13);
            int ticks = x.settles(1);
            for (int left = ticks; left > 0; left--) {
                Due.is("mass " + mass + ": left", x.settles(1), left);
                Due.is("mass " + mass + ": not yet", x.of(1, 4) == x.of(1, 5) ? 1 : 0, 0);
                x.pass(1);
            }
            Due.is("mass " + mass + ": settled", x.of(1, 4), 1060);
            Due.is("mass " + mass + ": none is left", x.settles(1), 0);
        }
    }

    private static void settlesWithoutOrdersAndShorts() {
        LocoFrames x = new LocoFrames();
        x.loco(1, 20, LocoFrames.EVEN, 0);
        sent(x, 1, 128 + 28);
        x.order(1, 31, 3);
        x.order(1, 129, 3);
        Due.is("orders are not sent", x.settles(1), 94);
        x.shorts(0, 99);
        Due.is("a short is none", x.settles(1), 94);
        x.shorts(0, 0);
        Due.is("the order is sent in a tick", x.pass(1), 1);
        Due.is("then it is stopped", x.settles(1), 0);
    }

    /** Promise 16: no such loco comes before two that are the same. */
    private static void meetsRefuses() {
        for (int address : NO_ADDRESS) {
            Scene.refused("meets twice " + address, x -> x.meets(address, address), LocoFrames.NO_SUCH);
            for (Scene scene : Scene.values()) {
                int there = scene.someLoco();
                scene.refusedHere("meets(.., " + address + ")", x -> x.meets(there, address), LocoFrames.NO_SUCH);
                scene.refusedHere("meets(" + address + ", ..)", x -> x.meets(address, there), LocoFrames.NO_SUCH);
            }
        }
        for (Scene scene : Scene.values()) {
            int there = scene.someLoco();
            int due = scene == Scene.FRESH ? LocoFrames.NO_SUCH : LocoFrames.BAD_VALUE;
            scene.refusedHere("meets itself", x -> x.meets(there, there), due);
        }
    }

    /** 0 if they are in one block, NONE if they stand in two. */
    private static void meetsWhereTheyAre() {
        int[] places = {0, 99, 100, 199, 700, 799};
        for (int first : places) {
            for (int second : places) {
                LocoFrames x = new LocoFrames();
                x.loco(1, 1, 0, first);
                x.loco(2, 1, 0, second);
                int due = first / 100 == second / 100 ? 0 : LocoFrames.NONE;
                Due.is("at " + first + " and " + second, x.meets(1, 2), due);
                Due.is("at " + second + " and " + first, x.meets(2, 1), due);
            }
        }
    }

    private static void meetsIn1000() {
        for (int more = 0; more <= 1; more++) {
            LocoFrames x = new LocoFrames();
            x.loco(1, 20, LocoFrames.SLOW, 700);
            x.loco(2, 20, LocoFrames.SLOW, 50);
            sent(x, 1, 128 + 2);
            x.shorts(7, more);
            int due = more == 0 ? 1000 : LocoFrames.NONE;
            Due.is("in 1000 ticks and " + more, x.meets(1, 2), due);
            Due.is("the other way", x.meets(2, 1), due);
            x.pass(1);
            Due.is("a tick later", x.meets(1, 2), 999 + more);
        }
    }

    private static void meetsAcrossTheSeam() {
        LocoFrames x = new LocoFrames();
        x.loco(1, 1, LocoFrames.EVEN, 790);
        x.loco(2, 1, LocoFrames.EVEN, 5);
        sent(x, 2, 1);
        Due.is("2 comes backwards to 799", x.meets(1, 2), 6);
        sent(x, 1, 129);
        Due.is("then 1 is at 796 still", x.meets(1, 2), 6);
        sent(x, 2, 128);
        Due.is("1 comes forwards to 0", x.meets(2, 1), 10);
        LocoFrames y = new LocoFrames();
        y.loco(1, 1, LocoFrames.EVEN, 799);
        y.loco(2, 1, LocoFrames.EVEN, 0);
        sent(y, 1, 129);
        sent(y, 2, 1);
        // After n ticks 1 is at n - 1, 2 at 800 - n: at 399 and 400, then at 400 and 399.
        Due.is("they pass each other where two blocks meet", y.meets(1, 2), LocoFrames.NONE);
        y.pass(1);
        y.loco(3, 1, LocoFrames.EVEN, 798);
        Due.is("who comes after 1 is met by 2 at once", y.meets(2, 3), 0);
        Due.is("1 goes all the way round to it", y.meets(1, 3), 700);
    }

    /** Promise 17: no such loco comes before tenths that are out of range. */
    private static void stepForRefuses() {
        int[] bad = {-1, 281, LEAST, MOST};
        for (int address : NO_ADDRESS) {
            Scene.refused("stepFor(" + address + ", 0)", x -> x.stepFor(address, 0), LocoFrames.NO_SUCH);
            for (int tenths : bad) {
                String call = "stepFor(" + address + ", " + tenths + ")";
                Scene.refused(call, x -> x.stepFor(address, tenths), LocoFrames.NO_SUCH);
            }
        }
        for (Scene scene : Scene.values()) {
            int there = scene.someLoco();
            for (int tenths : bad) {
                ToLongFunction<LocoFrames> call = x -> x.stepFor(there, tenths);
                int due = scene == Scene.FRESH ? LocoFrames.NO_SUCH : LocoFrames.BAD_VALUE;
                scene.refusedHere("stepFor(" + there + ", " + tenths + ")", call, due);
            }
        }
    }

    /** The least step with at least so much: for each number of tenths, by what of() tells of each step. */
    private static void stepForEveryTenth() {
        for (int curve = 0; curve <= 2; curve++) {
            LocoFrames x = new LocoFrames();
            x.loco(1, 1, curve, 0);
            int[] goals = new int[29];
            for (int s = 0; s <= 28; s++) {
                sent(x, 1, 128 + s);
                goals[s] = x.of(1, 5) - 1000;
            }
            sent(x, 1, 28);
            for (int tenths = 0; tenths <= 280; tenths++) {
                int step = x.stepFor(1, tenths);
                Due.is("a step for " + tenths, step >= 0 && step <= 28 ? 1 : 0, 1);
                Due.is("curve " + curve + ", enough for " + tenths, goals[step] >= tenths ? 1 : 0, 1);
                for (int below = 0; below < step; below++) {
                    Due.is("curve " + curve + ", " + below + " for " + tenths, goals[below] < tenths ? 1 : 0, 1);
                }
            }
        }
    }
}
