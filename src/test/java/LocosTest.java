/** Promises 1 (a new object), 2 (loco), 3 (lift), 9 (of), 10 (address). */
public final class LocosTest {
    public static void main(String[] args) {
        newObject();
        locosAreCountedAndRanked();
        aNewLocoIsAtRestForwards();
        liftTakesAway();
        liftRefuses();
        ofTellsEverything();
        ofRefuses();
        goalsByCurve();
        roundsEitherWay();
        addressRefuses();
        Due.end();
    }

    private static void newObject() {
        LocoFrames x = new LocoFrames();
        for (int what = 0; what < 12; what++) {
            Due.is("new: count(" + what + ")", x.count(what), what == 9 ? 10000 : 0);
        }
        for (int block = 0; block < 8; block++) {
            Due.is("new: block(" + block + ", 0)", x.block(block, 0), 0);
            Due.is("new: block(" + block + ", 1)", x.block(block, 1), 0);
        }
        Due.is("new: address(0)", x.address(0), LocoFrames.NO_SUCH);
        Due.is("new: waiting(0, 0)", x.waiting(0, 0), LocoFrames.NO_SUCH);
        Due.is("new: undo()", x.undo(), LocoFrames.NOT_POSSIBLE);
        Due.is("new: restore(0)", x.restore(0), LocoFrames.NOT_POSSIBLE);
        Due.is("new: restore(1)", x.restore(1), LocoFrames.NOT_POSSIBLE);
        Due.is("new: fault()", x.fault(), 0);
    }

    private static void locosAreCountedAndRanked() {
        LocoFrames x = new LocoFrames();
        int[] addresses = {50, 99, 1, 60, 2, 98, 55, 51};
        int[] ranked = {1, 2, 50, 51, 55, 60, 98, 99};
        for (int i = 0; i < 8; i++) {
            Due.is("loco(" + addresses[i] + ")", x.loco(addresses[i], i + 1, i % 3, i * 100), i + 1);
        }
        for (int rank = 0; rank < 8; rank++) {
            Due.is("address(" + rank + ")", x.address(rank), ranked[rank]);
        }
        for (int i = 0; i < 8; i++) {
            Due.is("mass of " + addresses[i], x.of(addresses[i], 0), i + 1);
            Due.is("curve of " + addresses[i], x.of(addresses[i], 1), i % 3);
            Due.is("place of " + addresses[i], x.of(addresses[i], 2), i * 100);
        }
        Due.is("count(1)", x.count(1), 8);
        Due.is("count(11): eight changes, of which six can be undone", x.count(11), 6);
    }

    private static void aNewLocoIsAtRestForwards() {
        LocoFrames x = new LocoFrames();
        x.loco(7, 20, LocoFrames.FAST, 799);
        int[] due = {20, 2, 799, 0, 1000, 1000, 0, 1, 0, 7, 0, 1000};
        for (int what = 0; what < 12; what++) {
            Due.is("of(7, " + what + ")", x.of(7, what), due[what]);
        }
        x.frame(7, 20, 7 ^ 20);
        x.frame(7, 66, 7 ^ 66);
        x.pass(99);
        // Speeds 3, 6 and so on to 258 in 86 ticks, and 13 times 258 more: 14577 tenths back from 799.
        Due.is("it went round", x.of(7, 11), 999);
        x.lift(7);
        x.loco(7, 1, LocoFrames.EVEN, 0);
        int[] again = {1, 0, 0, 0, 1000, 1000, 0, 1, 0, 0, 0, 1000};
        for (int what = 0; what < 12; what++) {
            Due.is("put again: of(7, " + what + ")", x.of(7, what), again[what]);
        }
        Due.is("a frame hears no loco that comes later", x.of(7, 10), 0);
    }

    private static void liftTakesAway() {
        LocoFrames x = new LocoFrames();
        x.loco(3, 3, 0, 30);
        x.loco(1, 1, 0, 10);
        x.loco(2, 2, 0, 20);
        x.order(2, 130, 0);
        Due.is("lift(2)", x.lift(2), 2);
        Due.is("address(0)", x.address(0), 1);
        Due.is("address(1)", x.address(1), 3);
        Due.is("address(2)", x.address(2), LocoFrames.NO_SUCH);
        Due.is("of(1, 2)", x.of(1, 2), 10);
        Due.is("of(3, 2)", x.of(3, 2), 30);
        Due.is("of(2, 2)", x.of(2, 2), LocoFrames.NO_SUCH);
        Due.is("block(0, 1)", x.block(0, 1), 2);
        Due.is("its order waits on", x.count(2), 1);
        Due.is("frame to it", x.frame(2, 130, 2 ^ 130), 0);
        Due.is("lift(3)", x.lift(3), 1);
        Due.is("lift(1)", x.lift(1), 0);
        Due.is("count(11)", x.count(11), 6);
    }

    private static void liftRefuses() {
        LocoFrames x = new LocoFrames();
        x.loco(3, 3, 0, 30);
        String before = Due.whole(x);
        int[] bad = {2, 4, 0, -1, 100, Integer.MAX_VALUE, Integer.MIN_VALUE};
        for (int address : bad) {
            Due.refused(x, before, "lift(" + address + ")", x.lift(address), LocoFrames.NO_SUCH);
        }
    }

    private static void ofTellsEverything() {
        LocoFrames x = new LocoFrames();
        x.loco(9, 7, LocoFrames.SLOW, 150);
        x.frame(9, 128 + 15, 9 ^ 143);
        x.frame(0, 67, 67);
        x.pass(3);
        // SLOW 15: 15 * 15 * 10 / 28 = 80; by 60 / 7 = 8: speeds 8, 16, 24, so 48 tenths of a unit.
        int[] due = {7, 1, 154, 8, 1024, 1080, 15, 1, 3, 1, 2, 1000};
        for (int what = 0; what < 12; what++) {
            Due.is("of(9, " + what + ")", x.of(9, what), due[what]);
        }
        x.frame(9, 15, 9 ^ 15);
        Due.is("backwards: of(9, 5)", x.of(9, 5), 920);
        Due.is("backwards: of(9, 4) is as it was", x.of(9, 4), 1024);
        Due.is("backwards: of(9, 7)", x.of(9, 7), 0);
    }

    private static void ofRefuses() {
        LocoFrames x = new LocoFrames();
        x.loco(9, 7, 1, 150);
        String before = Due.whole(x);
        Due.refused(x, before, "of(9, -1)", x.of(9, -1), LocoFrames.BAD_VALUE);
        Due.refused(x, before, "of(9, 12)", x.of(9, 12), LocoFrames.BAD_VALUE);
        Due.refused(x, before, "of(8, 0)", x.of(8, 0), LocoFrames.NO_SUCH);
        Due.refused(x, before, "of(8, 12)", x.of(8, 12), LocoFrames.NO_SUCH);
        Due.refused(x, before, "of(0, 0)", x.of(0, 0), LocoFrames.NO_SUCH);
    }

    private static void goalsByCurve() {
        LocoFrames x = new LocoFrames();
        x.loco(1, 1, LocoFrames.EVEN, 0);
        x.loco(2, 1, LocoFrames.SLOW, 0);
        x.loco(3, 1, LocoFrames.FAST, 0);
        int[] steps = {0, 1, 2, 13, 27, 28};
        int[] slow = {0, 0, 1, 60, 260, 280};
        int[] fast = {0, 20, 39, 200, 280, 280};
        for (int i = 0; i < steps.length; i++) {
            int s = steps[i];
            x.frame(0, 128 + s, 128 + s);
            Due.is("EVEN " + s, x.of(1, 5), 1000 + 10 * s);
            Due.is("SLOW " + s, x.of(2, 5), 1000 + slow[i]);
            Due.is("FAST " + s, x.of(3, 5), 1000 + fast[i]);
            x.frame(0, s, s);
            Due.is("EVEN " + s + " backwards", x.of(1, 5), 1000 - 10 * s);
            Due.is("SLOW " + s + " backwards", x.of(2, 5), 1000 - slow[i]);
            Due.is("FAST " + s + " backwards", x.of(3, 5), 1000 - fast[i]);
        }
    }

    private static void roundsEitherWay() {
        LocoFrames x = new LocoFrames();
        x.loco(1, 1, LocoFrames.EVEN, 799);
        x.frame(1, 128 + 1, 1 ^ 129);
        x.pass(1);
        Due.is("from 799 to 0: place", x.of(1, 2), 0);
        Due.is("from 799 to 0: rounds", x.of(1, 11), 1001);
        x.frame(1, 1, 0);
        x.pass(1);
        Due.is("back from 0 to 799: place", x.of(1, 2), 799);
        Due.is("back from 0 to 799: rounds", x.of(1, 11), 1000);
        x.frame(1, 128 + 28, 1 ^ 156);
        x.pass(99);
        // Speeds 50, 110, 170, 230, 280 and 94 times 280 more: 7990 + 840 + 26320 = 35150 tenths.
        Due.is("four rounds: place", x.of(1, 2), 315);
        Due.is("four rounds: tenths", x.of(1, 3), 0);
        Due.is("four rounds: rounds", x.of(1, 11), 1004);
        LocoFrames y = new LocoFrames();
        y.loco(4, 20, LocoFrames.EVEN, 0);
        y.frame(4, 28, 4 ^ 28);
        y.pass(1);
        Due.is("3 tenths backwards of 0: place", y.of(4, 2), 799);
        Due.is("3 tenths backwards of 0: tenths", y.of(4, 3), 7);
        Due.is("3 tenths backwards of 0: rounds", y.of(4, 11), 999);
        Due.is("3 tenths backwards of 0: block", y.of(4, 9), 7);
    }

    private static void addressRefuses() {
        LocoFrames x = new LocoFrames();
        x.loco(9, 7, 1, 150);
        String before = Due.whole(x);
        int[] bad = {1, 7, 8, -1, Integer.MAX_VALUE, Integer.MIN_VALUE};
        for (int rank : bad) {
            Due.refused(x, before, "address(" + rank + ")", x.address(rank), LocoFrames.NO_SUCH);
        }
        Due.is("address(0)", x.address(0), 9);
    }
}
