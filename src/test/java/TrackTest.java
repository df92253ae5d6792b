/** Promises 7 (shorts), 8 (pass), 12 (block), 13 (count). */
public final class TrackTest {
    public static void main(String[] args) {
        shortsReplaceAndRunOut();
        shortsRefuse();
        aShortStops();
        aLocoRunsIntoAShort();
        aLocoIsPutAndLiftedInAShort();
        manyLocosInOneBlock();
        momentumByMass();
        speedTurnsRound();
        tenthsAreKept();
        passRefuses();
        blockTells();
        countTellsAndRefuses();
        Due.end();
    }

    private static void shortsReplaceAndRunOut() {
        LocoFrames x = new LocoFrames();
        Due.is("shorts(0, 99)", x.shorts(0, 99), 0);
        Due.is("shorts(7, 2)", x.shorts(7, 2), 0);
        Due.is("count(7)", x.count(7), 2);
        x.pass(1);
        Due.is("block(0, 0)", x.block(0, 0), 98);
        Due.is("block(7, 0)", x.block(7, 0), 1);
        Due.is("count(7) with one that lasts a tick", x.count(7), 2);
        Due.is("shorts(0, 5) in place of it", x.shorts(0, 5), 98);
        x.pass(1);
        Due.is("block(7, 0) then", x.block(7, 0), 0);
        Due.is("count(7) then", x.count(7), 1);
        x.pass(10);
        Due.is("block(0, 0) stays 0", x.block(0, 0), 0);
        Due.is("count(7) at the end", x.count(7), 0);
        Due.is("shorts(3, 4)", x.shorts(3, 4), 0);
        Due.is("shorts(3, 0)", x.shorts(3, 0), 4);
        Due.is("no short any more", x.count(7), 0);
    }

    private static void shortsRefuse() {
        LocoFrames x = new LocoFrames();
        x.shorts(1, 7);
        String before = Due.whole(x);
        Due.refused(x, before, "shorts(-1, 0)", x.shorts(-1, 0), LocoFrames.NO_SUCH);
        Due.refused(x, before, "shorts(8, 0)", x.shorts(8, 0), LocoFrames.NO_SUCH);
        Due.refused(x, before, "shorts(8, 100)", x.shorts(8, 100), LocoFrames.NO_SUCH);
        Due.refused(x, before, "shorts(1, 100)", x.shorts(1, 100), LocoFrames.BAD_VALUE);
        Due.refused(x, before, "shorts(1, -1)", x.shorts(1, -1), LocoFrames.BAD_VALUE);
    }

    private static void aShortStops() {
        LocoFrames x = new LocoFrames();
        x.loco(1, 20, 0, 500);
        x.frame(1, 128 + 20, 1 ^ 148);
        x.pass(10);
        Due.is("speed", x.of(1, 4), 1030);
        int place = x.of(1, 2);
        int tenths = x.of(1, 3);
        x.shorts(5, 2);
        x.pass(1);
        Due.is("speed in the short", x.of(1, 4), 1000);
        Due.is("place in the short", x.of(1, 2), place);
        Due.is("tenths in the short", x.of(1, 3), tenths);
        Due.is("its step stays", x.of(1, 6), 20);
        x.pass(1);
        Due.is("speed in the last tick of the short", x.of(1, 4), 1000);
        x.pass(1);
        Due.is("it starts again", x.of(1, 4), 1003);
    }

    private static void aLocoRunsIntoAShort() {
        LocoFrames x = new LocoFrames();
        x.loco(1, 1, 0, 90);
        x.frame(1, 128 + 28, 1 ^ 156);
        x.shorts(1, 9);
        x.pass(1);
        Due.is("speed before it", x.of(1, 4), 1060);
        Due.is("place before it", x.of(1, 2), 96);
        x.pass(1);
        Due.is("it goes in", x.of(1, 2), 108);
        Due.is("its speed is kept for that tick", x.of(1, 4), 1120);
        x.pass(1);
        Due.is("it stands then", x.of(1, 2), 108);
        Due.is("its speed is 0 then", x.of(1, 4), 1000);
    }

    private static void aLocoIsPutAndLiftedInAShort() {
        LocoFrames x = new LocoFrames();
        x.shorts(6, 2);
        Due.is("put in a short", x.loco(1, 1, LocoFrames.EVEN, 650), 1);
        Due.is("it does not hear", x.frame(1, 129, 128), 0);
        Due.is("lifted there", x.lift(1), 0);
        Due.is("put there again", x.loco(1, 1, LocoFrames.EVEN, 650), 1);
        x.pass(2);
        Due.is("it hears when the short is over", x.frame(1, 129, 128), 1);
        x.pass(1);
        Due.is("and goes", x.of(1, 2), 651);
        Due.is("lifted while it goes", x.lift(1), 0);
    }

    /** Locos in one block, or at one place, do not mind each other. */
    private static void manyLocosInOneBlock() {
        LocoFrames x = new LocoFrames();
        for (int i = 1; i <= 8; i++) {
            Due.is("all at one place: " + i, x.loco(i, 1, LocoFrames.EVEN, 297), i);
        }
        x.frame(0, 129, 129);
        x.frame(8, 2, 8 ^ 2);
        for (int tick = 1; tick <= 8; tick++) {
            x.pass(1);
            for (int i = 1; i <= 7; i++) {
                Due.is("tick " + tick + ": the place of " + i, x.of(i, 2), 297 + tick);
            }
            Due.is("tick " + tick + ": the place of 8", x.of(8, 2), 297 - 2 * tick);
            Due.is("tick " + tick + ": in block 2", x.block(2, 1), tick < 3 ? 8 : 1);
            Due.is("tick " + tick + ": in block 3", x.block(3, 1), tick < 3 ? 0 : 7);
        }
    }

    private static void momentumByMass() {
        for (int mass = 1; mass <= 20; mass++) {
            LocoFrames x = new LocoFrames();
            x.loco(1, mass, 0, 0);
            x.frame(1, 128 + 28, 1 ^ 156);
            x.pass(1);
            Due.is("mass " + mass + " after a tick", x.of(1, 4), 1000 + 60 / mass);
            x.pass(3);
            Due.is("mass " + mass + " after four", x.of(1, 4), 1000 + Math.min(280, 60 / mass * 4));
            x.frame(1, 128, 129);
            x.pass(1);
            Due.is("mass " + mass + " slower", x.of(1, 4), 1000 + Math.min(280, 60 / mass * 4) - 60 / mass);
        }
    }

    private static void speedTurnsRound() {
        LocoFrames x = new LocoFrames();
        x.loco(1, 3, 0, 400);
        x.frame(1, 128 + 3, 1 ^ 131);
        x.pass(2);
        Due.is("20, then 30, no more", x.of(1, 4), 1030);
        x.frame(1, 2, 3);
        int[] speeds = {1010, 990, 980, 980};
        for (int speed : speeds) {
            x.pass(1);
            Due.is("turning", x.of(1, 4), speed);
        }
    }

    private static void tenthsAreKept() {
        LocoFrames x = new LocoFrames();
        x.loco(1, 20, 0, 10);
        x.frame(1, 128 + 28, 1 ^ 156);
        int[] places = {10, 10, 11, 13};
        int[] tenths = {3, 9, 8, 0};
        for (int i = 0; i < 4; i++) {
            x.pass(1);
            Due.is("place " + i, x.of(1, 2), places[i]);
            Due.is("tenths " + i, x.of(1, 3), tenths[i]);
        }
        x.frame(1, 31, 30);
        x.frame(1, 1, 0);
        x.pass(1);
        Due.is("3 backwards of 13: place", x.of(1, 2), 12);
        Due.is("3 backwards of 13: tenths", x.of(1, 3), 7);
    }

    private static void passRefuses() {
        LocoFrames x = new LocoFrames();
        x.loco(1, 20, 0, 10);
        x.order(1, 156, 0);
        String before = Due.whole(x);
        int[] bad = {0, -1, 100, Integer.MAX_VALUE, Integer.MIN_VALUE};
        for (int ticks : bad) {
            Due.refused(x, before, "pass(" + ticks + ")", x.pass(ticks), LocoFrames.BAD_VALUE);
        }
        Due.is("pass(99)", x.pass(99), 1);
        Due.is("count(0)", x.count(0), 99);
    }

    private static void blockTells() {
        LocoFrames x = new LocoFrames();
        x.loco(1, 20, 0, 0);
        x.loco(2, 20, 0, 99);
        x.loco(3, 20, 0, 100);
        x.loco(4, 20, 0, 799);
        x.shorts(1, 6);
        int[] locos = {2, 1, 0, 0, 0, 0, 0, 1};
        for (int block = 0; block < 8; block++) {
            Due.is("block(" + block + ", 1)", x.block(block, 1), locos[block]);
            Due.is("block(" + block + ", 0)", x.block(block, 0), block == 1 ? 6 : 0);
        }
    }

    private static void countTellsAndRefuses() {
        LocoFrames x = new LocoFrames();
        x.loco(1, 1, 0, 0);
        x.loco(2, 1, 0, 50);
        x.loco(3, 1, 0, 700);
        x.loco(4, 1, 0, 750);
        x.loco(5, 1, 0, 751);
        x.noise(1);
        x.frame(1, 128 + 2, 1 ^ 130);
        x.frame(3, 5, 3 ^ 5);
        x.frame(9, 9, 9);
        x.order(0, 64, 0);
        x.order(0, 65, 0);
        x.order(0, 66, 0);
        x.pass(2);
        x.shorts(4, 4);
        Due.write(x, "t1;");
        int[] due = {2, 5, 1, 1, 5, 2, 1, 1, 2, 10000 + 20 - 50, 3, 6};
        for (int what = 0; what < 12; what++) {
            Due.is("count(" + what + ")", x.count(what), due[what]);
        }
        String before = Due.whole(x);
        Due.refused(x, before, "count(-1)", x.count(-1), LocoFrames.BAD_VALUE);
        Due.refused(x, before, "count(12)", x.count(12), LocoFrames.BAD_VALUE);
        Due.refused(x, before, "count(least)", x.count(Integer.MIN_VALUE), LocoFrames.BAD_VALUE);
    }
}
