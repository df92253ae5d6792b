/** Promises 4 (noise), 5 (order), 6 (frame), 11 (waiting). */
public final class FramesTest {
    public static void main(String[] args) {
        noiseReturnsThePreviousNumber();
        noiseSpoilsEveryThird();
        noiseWaitsForAFrame();
        noiseKeepsWhatWentBy();
        noiseSpoilsEveryCheck();
        noiseDoesNotSpoilFrame();
        ordersAreRanked();
        ordersGoOneInATick();
        anOrderToAllIsHeardByAll();
        frameIsHeard();
        everyDatum();
        stopAtOnce();
        frameRefuses();
        aShortMakesDeaf();
        waitingRefuses();
        Due.end();
    }

    private static void noiseReturnsThePreviousNumber() {
        LocoFrames x = new LocoFrames();
        Due.is("noise(9)", x.noise(9), 0);
        Due.is("noise(0)", x.noise(0), 9);
        Due.is("noise(4)", x.noise(4), 0);
        Due.is("noise(4) again", x.noise(4), 4);
        Due.is("count(3)", x.count(3), 4);
        Due.is("count(11)", x.count(11), 4);
        String before = Due.whole(x);
        int[] bad = {-1, 10, Integer.MAX_VALUE, Integer.MIN_VALUE};
        for (int ticks : bad) {
            Due.refused(x, before, "noise(" + ticks + ")", x.noise(ticks), LocoFrames.BAD_VALUE);
        }
    }

    private static void noiseSpoilsEveryThird() {
        LocoFrames x = new LocoFrames();
        x.loco(1, 20, 0, 0);
        x.noise(3);
        for (int i = 0; i < 12; i++) {
            x.order(1, 64, 0);
        }
        int[] spoiled = {0, 0, 0, 1, 1, 1, 2, 2, 2, 3, 3, 3};
        for (int tick = 0; tick < 12; tick++) {
            Due.is("pass(1) " + tick, x.pass(1), 1);
            Due.is("spoiled after tick " + tick, x.count(6), spoiled[tick]);
            Due.is("not whole after tick " + tick, x.count(5), spoiled[tick]);
            Due.is("heard after tick " + tick, x.of(1, 10), tick + 1 - spoiled[tick]);
        }
        Due.is("count(4)", x.count(4), 12);
    }

    private static void noiseWaitsForAFrame() {
        LocoFrames x = new LocoFrames();
        x.noise(3);
        x.pass(7);
        Due.is("without frames", x.count(6), 0);
        for (int i = 0; i < 5; i++) {
            x.order(1, 64, 0);
        }
        int[] spoiled = {1, 1, 1, 2, 2};
        for (int i = 0; i < 5; i++) {
            x.pass(1);
            Due.is("the ticks 7 to 11, number " + i, x.count(6), spoiled[i]);
        }
    }

    private static void noiseKeepsWhatWentBy() {
        LocoFrames x = new LocoFrames();
        x.noise(9);
        for (int i = 0; i < 20; i++) {
            x.order(1, 64, 0);
        }
        x.pass(5);
        Due.is("NOISE 9, the ticks 0 to 4", x.count(6), 0);
        x.noise(5);
        x.pass(1);
        Due.is("NOISE 5, the tick 5", x.count(6), 1);
        x.noise(0);
        x.pass(3);
        Due.is("NOISE 0, the ticks 6 to 8", x.count(6), 1);
        x.noise(5);
        x.pass(1);
        Due.is("NOISE 5, the tick 9", x.count(6), 1);
        x.pass(1);
        Due.is("NOISE 5, the tick 10", x.count(6), 2);
        x.noise(1);
        x.pass(3);
        Due.is("NOISE 1, the ticks 11 to 13", x.count(6), 5);
        Due.is("count(0)", x.count(0), 14);
    }

    private static void noiseSpoilsEveryCheck() {
        for (int first = 0; first < 256; first += 16) {
            LocoFrames x = new LocoFrames();
            x.loco(1, 1, 0, 0);
            x.noise(1);
            x.pass(1);
            for (int check = first; check < first + 16; check++) {
                x.order(0, check, 0);
            }
            Due.is("checks from " + first + ": pass(16)", x.pass(16), 16);
            Due.is("checks from " + first + ": spoiled", x.count(6), 16);
            Due.is("checks from " + first + ": not whole", x.count(5), 16);
            Due.is("checks from " + first + ": heard", x.of(1, 10), 0);
        }
    }

    private static void noiseDoesNotSpoilFrame() {
        LocoFrames x = new LocoFrames();
        x.loco(1, 1, 0, 0);
        x.noise(1);
        x.pass(5);
        Due.is("frame(1, 64, 65)", x.frame(1, 64, 65), 1);
        Due.is("count(6)", x.count(6), 0);
        x.order(1, 64, 0);
        x.pass(1);
        Due.is("count(6) with an order", x.count(6), 1);
    }

    private static void ordersAreRanked() {
        LocoFrames x = new LocoFrames();
        int[] urgencies = {1, 0, 3, 1, 2, 3, 0, 2};
        int[] ranked = {2, 5, 4, 7, 0, 3, 1, 6};
        for (int i = 0; i < 8; i++) {
            Due.is("order " + i, x.order(i, 10 + i, urgencies[i]), i + 1);
        }
        for (int rank = 0; rank < 8; rank++) {
            Due.is("waiting(" + rank + ", 0)", x.waiting(rank, 0), ranked[rank]);
            Due.is("waiting(" + rank + ", 1)", x.waiting(rank, 1), 10 + ranked[rank]);
            Due.is("waiting(" + rank + ", 2)", x.waiting(rank, 2), urgencies[ranked[rank]]);
        }
        Due.is("count(2)", x.count(2), 8);
    }

    private static void ordersGoOneInATick() {
        LocoFrames x = new LocoFrames();
        x.loco(1, 1, 0, 0);
        x.loco(2, 1, 0, 500);
        x.order(1, 128 + 4, 0);
        x.order(2, 128 + 6, 2);
        x.order(1, 128 + 2, 2);
        Due.is("pass(1)", x.pass(1), 1);
        Due.is("the first of the urgent ones", x.of(2, 6), 6);
        Due.is("not yet the second", x.of(1, 10), 0);
        Due.is("it goes in the same tick", x.of(2, 4), 1060);
        Due.is("pass(9)", x.pass(9), 2);
        Due.is("the last one stands", x.of(1, 6), 4);
        Due.is("heard", x.of(1, 10), 2);
        Due.is("count(2)", x.count(2), 0);
        Due.is("count(4)", x.count(4), 3);
        Due.is("pass(9) without orders", x.pass(9), 0);
    }

    /** The address 0 means all locos, also in a frame that the station sends. */
    private static void anOrderToAllIsHeardByAll() {
        LocoFrames x = new LocoFrames();
        for (int i = 0; i < 8; i++) {
            x.loco(10 + i, 1, LocoFrames.EVEN, 100 * i + 50);
        }
        x.shorts(0, 9);
        x.shorts(7, 9);
        x.order(0, 128 + 3, 0);
        x.order(0, 64 + 1, 0);
        Due.is("pass(2)", x.pass(2), 2);
        for (int i = 0; i < 8; i++) {
            boolean hears = i > 0 && i < 7;
            Due.is("heard by number " + i, x.of(10 + i, 10), hears ? 2 : 0);
            Due.is("step of number " + i, x.of(10 + i, 6), hears ? 3 : 0);
            Due.is("lights of number " + i, x.of(10 + i, 8), hears ? 1 : 0);
            Due.is("speed of number " + i, x.of(10 + i, 4), hears ? 1030 : 1000);
        }
        Due.is("two frames, not one for each loco", x.count(4), 2);
    }

    private static void frameIsHeard() {
        LocoFrames x = new LocoFrames();
        x.loco(5, 1, 0, 0);
        x.loco(6, 1, 0, 0);
        Due.is("to 5", x.frame(5, 128 + 9, 5 ^ 137), 1);
        Due.is("5 has the step", x.of(5, 6), 9);
        Due.is("6 has none", x.of(6, 6), 0);
        Due.is("to all", x.frame(0, 7, 7), 2);
        Due.is("5 has the step of all", x.of(5, 6), 7);
        Due.is("6 has it, too", x.of(6, 6), 7);
        Due.is("backwards", x.of(6, 7), 0);
        Due.is("to nobody", x.frame(7, 7, 0), 0);
        Due.is("to an address above 99", x.frame(255, 0, 255), 0);
        Due.is("not whole", x.frame(5, 1, 5), 0);
        Due.is("not whole, to all", x.frame(0, 1, 0), 0);
        Due.is("step is as before", x.of(5, 6), 7);
        Due.is("heard by 5", x.of(5, 10), 2);
        Due.is("heard by 6", x.of(6, 10), 1);
        Due.is("count(4)", x.count(4), 6);
        Due.is("count(5)", x.count(5), 2);
        Due.is("count(6)", x.count(6), 0);
        Due.is("count(0)", x.count(0), 0);
        Due.is("count(11)", x.count(11), 6);
    }

    private static void everyDatum() {
        for (int datum = 0; datum <= 255; datum++) {
            LocoFrames x = new LocoFrames();
            x.loco(1, 20, 0, 0);
            x.frame(1, 128 + 28, 1 ^ 156);
            x.frame(1, 65, 64);
            x.pass(4);
            x.frame(1, datum, 1 ^ datum);
            int step = 28;
            int way = 1;
            int lights = 1;
            int speed = 12;
            if (datum < 29) {
                step = datum;
                way = 0;
            } else if (datum >= 128 && datum < 157) {
                step = datum - 128;
            } else if (datum == 31) {
                step = 0;
                speed = 0;
            } else if (datum >= 64 && datum < 68) {
                lights = datum - 64;
            }
            Due.is("datum " + datum + ": step", x.of(1, 6), step);
            Due.is("datum " + datum + ": way", x.of(1, 7), way);
            Due.is("datum " + datum + ": lights", x.of(1, 8), lights);
            Due.is("datum " + datum + ": speed", x.of(1, 4), 1000 + speed);
            Due.is("datum " + datum + ": heard", x.of(1, 10), 3);
        }
    }

    private static void stopAtOnce() {
        LocoFrames x = new LocoFrames();
        x.loco(1, 20, 0, 400);
        x.frame(1, 10, 11);
        x.pass(20);
        Due.is("speed", x.of(1, 4), 940);
        Due.is("stop", x.frame(1, 31, 30), 1);
        Due.is("speed 0", x.of(1, 4), 1000);
        Due.is("step 0", x.of(1, 6), 0);
        Due.is("its way stays", x.of(1, 7), 0);
        int place = x.of(1, 2);
        x.pass(5);
        Due.is("it stands", x.of(1, 2), place);
    }

    private static void frameRefuses() {
        LocoFrames x = new LocoFrames();
        x.loco(1, 20, 0, 400);
        String before = Due.whole(x);
        int[][] bad = {{-1, 0, 0}, {256, 0, 0}, {1, -1, 0}, {1, 256, 0}, {1, 0, -1}, {1, 0, 256}, {257, 256, 1},
            {Integer.MIN_VALUE, Integer.MIN_VALUE, 0}};
        for (int[] b : bad) {
            String call = "frame(" + b[0] + ", " + b[1] + ", " + b[2] + ")";
            Due.refused(x, before, call, x.frame(b[0], b[1], b[2]), LocoFrames.BAD_VALUE);
        }
    }

    private static void aShortMakesDeaf() {
        LocoFrames x = new LocoFrames();
        x.loco(1, 1, 0, 199);
        x.loco(2, 1, 0, 200);
        x.loco(3, 1, 0, 299);
        x.loco(4, 1, 0, 300);
        x.shorts(2, 1);
        Due.is("to all", x.frame(0, 64 + 2, 66), 2);
        Due.is("lights of 1", x.of(1, 8), 2);
        Due.is("lights of 2", x.of(2, 8), 0);
        Due.is("lights of 3", x.of(3, 8), 0);
        Due.is("lights of 4", x.of(4, 8), 2);
        Due.is("2 heard nothing", x.of(2, 10), 0);
        Due.is("to 2", x.frame(2, 66, 64), 0);
        x.order(2, 66, 0);
        x.order(2, 67, 0);
        Due.is("pass(1)", x.pass(1), 1);
        Due.is("sent, but not heard in the short's last tick", x.of(2, 10), 0);
        Due.is("pass(1) without the short", x.pass(1), 1);
        Due.is("lights of 2, later", x.of(2, 8), 3);
        Due.is("whole ones all", x.count(5), 0);
    }

    private static void waitingRefuses() {
        LocoFrames x = new LocoFrames();
        x.order(1, 2, 3);
        String before = Due.whole(x);
        Due.refused(x, before, "waiting(1, 0)", x.waiting(1, 0), LocoFrames.NO_SUCH);
        Due.refused(x, before, "waiting(-1, 0)", x.waiting(-1, 0), LocoFrames.NO_SUCH);
        Due.refused(x, before, "waiting(1, 3)", x.waiting(1, 3), LocoFrames.NO_SUCH);
        Due.refused(x, before, "waiting(0, 3)", x.waiting(0, 3), LocoFrames.BAD_VALUE);
        Due.refused(x, before, "waiting(0, -1)", x.waiting(0, -1), LocoFrames.BAD_VALUE);
        Due.is("waiting(0, 0)", x.waiting(0, 0), 1);
        Due.is("waiting(0, 1)", x.waiting(0, 1), 2);
        Due.is("waiting(0, 2)", x.waiting(0, 2), 3);
    }
}
