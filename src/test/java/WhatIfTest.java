/** Promises 14 (reaches), 15 (settles), 16 (meets), 17 (stepFor). */
public final class WhatIfTest {
    public static void main(String[] args) {
        reachesCountsTicks();
        reachesUpTo1000();
        reachesSendsOrdersAndMindsShorts();
        reachesAndMeetsSendOrdersToAll();
        reachesAndMeetsAreAtOnceWhileLocosGo();
        reachesMindsNoise();
        reachesAndMeetsMindWhenNoiseSpoiledLast();
        reachesRefuses();
        settlesCountsTicks();
        settlesMindsNeitherOrdersNorShorts();
        settlesRefuses();
        meetsCountsTicks();
        meetsUpTo1000();
        meetsSendsOrders();
        meetsMindsNoise();
        meetsRefuses();
        stepForFindsTheLeast();
        stepForRefuses();
        Due.end();
    }

    private static LocoFrames rolling(int address, int place, int datum) {
        LocoFrames x = new LocoFrames();
        x.loco(address, 1, LocoFrames.EVEN, place);
        x.frame(address, datum, address ^ datum);
        return x;
    }

    private static void reachesCountsTicks() {
        LocoFrames x = rolling(1, 95, 128 + 1);
        String before = Due.whole(x);
        Due.is("reaches(1, 0)", x.reaches(1, 0), 0);
        Due.is("reaches(1, 1)", x.reaches(1, 1), 5);
        Due.is("reaches(1, 2)", x.reaches(1, 2), 105);
        Due.is("reaches(1, 7)", x.reaches(1, 7), 605);
        Due.same("nothing changes", Due.whole(x), before);
        LocoFrames y = rolling(1, 5, 1);
        Due.is("backwards: reaches(1, 7)", y.reaches(1, 7), 6);
        Due.is("backwards: reaches(1, 1)", y.reaches(1, 1), 606);
        LocoFrames z = rolling(1, 99, 128 + 28);
        // Speeds 60, 120, 180, 240, 280: 60 tenths after the first tick, 880 after the fifth.
        Due.is("fast: reaches(1, 1)", z.reaches(1, 1), 1);
        Due.is("fast: reaches(1, 2)", z.reaches(1, 2), 6);
        Due.is("fast: reaches(1, 0)", z.reaches(1, 0), 0);
    }

    private static void reachesUpTo1000() {
        for (int place = 399; place <= 401; place++) {
            LocoFrames x = new LocoFrames();
            x.loco(1, 20, LocoFrames.SLOW, place);
            x.frame(1, 128 + 5, 1 ^ 133);
            // SLOW 5 is 8; speeds 3, 6, 8, 8: n ticks are 8 * n - 7 tenths.
            Due.is("7 backwards of it: " + place, x.reaches(1, (place / 100 + 7) % 8),
                    place == 399 ? 753 : place == 400 ? 876 : 875);
        }
        LocoFrames y = new LocoFrames();
        y.loco(1, 20, LocoFrames.SLOW, 0);
        y.frame(1, 128 + 2, 1 ^ 130);
        // SLOW 2 is 1: a tenth in a tick.
        y.loco(2, 20, LocoFrames.SLOW, 99);
        Due.is("1000 ticks", y.reaches(1, 1), 1000);
        Due.is("it stands", y.reaches(2, 1), LocoFrames.NONE);
        y.pass(1);
        Due.is("999 ticks", y.reaches(1, 1), 999);
        y.frame(1, 2, 3);
        y.pass(2);
        y.frame(1, 130, 131);
        // It goes on from 799 and 9 tenths, by 1 to 0 in the first tick.
        Due.is("1001 ticks, so none", y.reaches(1, 1), LocoFrames.NONE);
        y.pass(1);
        Due.is("1000 ticks again", y.reaches(1, 1), 1000);
    }

    private static void reachesSendsOrdersAndMindsShorts() {
        LocoFrames x = new LocoFrames();
        x.loco(1, 1, LocoFrames.EVEN, 95);
        x.order(2, 31, 3);
        x.order(1, 128 + 1, 1);
        x.order(1, 128, 0);
        // The tick 1 sends it off, the tick 2 stops it again.
        Due.is("it stops too early", x.reaches(1, 1), LocoFrames.NONE);
        x.order(1, 128 + 5, 0);
        // 96 after two ticks, 96 after three, then 5 in each.
        Due.is("it goes on", x.reaches(1, 1), 4);
        x.shorts(0, 9);
        Due.is("it hears nothing in a short", x.reaches(1, 1), LocoFrames.NONE);
        Due.is("count(2)", x.count(2), 4);
        LocoFrames y = rolling(1, 95, 128 + 1);
        y.shorts(0, 9);
        Due.is("it waits until the short is gone", y.reaches(1, 1), 14);
        y.shorts(0, 99);
        Due.is("it waits longer", y.reaches(1, 1), 104);
        Due.is("the short is as it was", y.block(0, 0), 99);
    }

    private static void reachesAndMeetsSendOrdersToAll() {
        LocoFrames x = new LocoFrames();
        x.loco(1, 1, LocoFrames.EVEN, 95);
        x.loco(2, 1, LocoFrames.EVEN, 190);
        x.order(0, 128 + 1, 0);
        // In the tick 0 both go: after n ticks 1 is at 95 + n, 2 at 190 + n.
        Due.is("1 goes", x.reaches(1, 1), 5);
        Due.is("2 goes", x.reaches(2, 2), 10);
        Due.is("1 comes to where 2 still is", x.meets(1, 2), 5);
        x.order(0, 31, 0);
        Due.is("1 is stopped again", x.reaches(1, 1), LocoFrames.NONE);
        Due.is("2 is stopped again", x.reaches(2, 2), LocoFrames.NONE);
        Due.is("both are", x.meets(1, 2), LocoFrames.NONE);
    }

    private static void reachesAndMeetsAreAtOnceWhileLocosGo() {
        LocoFrames x = rolling(1, 98, 128 + 28);
        x.loco(2, 1, LocoFrames.EVEN, 199);
        x.frame(2, 28, 2 ^ 28);
        x.pass(1);
        Due.is("1 is in block 1 now", x.reaches(1, 1), 0);
        Due.is("2 is in block 1 still", x.reaches(2, 1), 0);
        Due.is("both are", x.meets(1, 2), 0);
        Due.is("behind 1", x.reaches(1, 0) > 0 ? 1 : 0, 1);
    }

    private static void reachesMindsNoise() {
        LocoFrames x = new LocoFrames();
        x.loco(1, 1, LocoFrames.EVEN, 95);
        x.order(1, 64, 0);
        x.order(1, 64, 0);
        x.order(1, 128 + 1, 0);
        Due.is("without noise", x.reaches(1, 1), 7);
        x.noise(2);
        Due.is("the third is spoiled", x.reaches(1, 1), LocoFrames.NONE);
        x.noise(1);
        Due.is("all but the first are spoiled", x.reaches(1, 1), LocoFrames.NONE);
        x.noise(3);
        Due.is("the third comes before it", x.reaches(1, 1), 7);
        Due.is("count(6)", x.count(6), 0);
    }

    /** Noise spoiled the frame of the tick 3: with NOISE 3, that of the tick 6 is the next one that it spoils. */
    private static void reachesAndMeetsMindWhenNoiseSpoiledLast() {
        for (int before = 0; before <= 3; before++) {
            LocoFrames x = new LocoFrames();
            x.noise(3);
            x.pass(3);
            x.order(9, 0, 0);
            x.pass(1);
            Due.is("the frame of the tick 3 is spoiled", x.count(6), 1);
            if (before > 0) {
                x.pass(before);
            }
            x.loco(1, 1, LocoFrames.EVEN, 95);
            x.loco(2, 1, LocoFrames.EVEN, 150);
            x.order(1, 128 + 1, 0);
            int due = before < 2 ? 5 : LocoFrames.NONE;
            Due.is("sent in the tick " + (4 + before) + ": reaches", x.reaches(1, 1), due);
            Due.is("sent in the tick " + (4 + before) + ": meets", x.meets(1, 2), due);
            x.order(1, 128 + 1, 0);
            due = before < 2 ? 5 : 6;
            Due.is("one more, a tick later: reaches", x.reaches(1, 1), due);
            Due.is("one more, a tick later: meets", x.meets(2, 1), due);
            Due.is("still one is spoiled", x.count(6), 1);
        }
    }

    private static void reachesRefuses() {
        LocoFrames x = rolling(1, 95, 129);
        String before = Due.whole(x);
        Due.refused(x, before, "reaches(2, 0)", x.reaches(2, 0), LocoFrames.NO_SUCH);
        Due.refused(x, before, "reaches(0, 0)", x.reaches(0, 0), LocoFrames.NO_SUCH);
        Due.refused(x, before, "reaches(1, 8)", x.reaches(1, 8), LocoFrames.NO_SUCH);
        Due.refused(x, before, "reaches(1, -1)", x.reaches(1, -1), LocoFrames.NO_SUCH);
        Due.refused(x, before, "reaches(2, 8)", x.reaches(2, 8), LocoFrames.NO_SUCH);
    }

    private static void settlesCountsTicks() {
        LocoFrames x = new LocoFrames();
        x.loco(1, 20, LocoFrames.EVEN, 0);
        Due.is("at rest", x.settles(1), 0);
        int[] steps = {1, 3, 6, 9, 28};
        int[] ticks = {4, 10, 20, 30, 94};
        for (int i = 0; i < steps.length; i++) {
            x.frame(1, 128 + steps[i], 1 ^ (128 + steps[i]));
            Due.is("step " + steps[i], x.settles(1), ticks[i]);
        }
        x.pass(93);
        Due.is("one is left", x.settles(1), 1);
        x.pass(1);
        Due.is("none is left", x.settles(1), 0);
        x.frame(1, 28, 29);
        Due.is("all the way round", x.settles(1), 187);
        x.pass(99);
        Due.is("99 later", x.settles(1), 88);
    }

    private static void settlesMindsNeitherOrdersNorShorts() {
        LocoFrames x = new LocoFrames();
        x.loco(1, 1, LocoFrames.EVEN, 0);
        x.frame(1, 128 + 28, 1 ^ 156);
        x.order(1, 31, 3);
        x.shorts(0, 99);
        String before = Due.whole(x);
        Due.is("settles(1)", x.settles(1), 5);
        Due.same("nothing changes", Due.whole(x), before);
    }

    private static void settlesRefuses() {
        LocoFrames x = rolling(1, 95, 129);
        String before = Due.whole(x);
        Due.refused(x, before, "settles(2)", x.settles(2), LocoFrames.NO_SUCH);
        Due.refused(x, before, "settles(0)", x.settles(0), LocoFrames.NO_SUCH);
        Due.refused(x, before, "settles(-1)", x.settles(-1), LocoFrames.NO_SUCH);
    }

    private static void meetsCountsTicks() {
        LocoFrames x = rolling(1, 95, 128 + 1);
        x.loco(2, 1, LocoFrames.EVEN, 350);
        x.loco(3, 1, LocoFrames.EVEN, 0);
        Due.is("meets(1, 3)", x.meets(1, 3), 0);
        Due.is("meets(1, 2)", x.meets(1, 2), 205);
        Due.is("meets(2, 1)", x.meets(2, 1), 205);
        Due.is("meets(2, 3)", x.meets(2, 3), LocoFrames.NONE);
        x.frame(2, 1, 3);
        // 1 is at 95 + n, 2 at 350 - n: both in block 2 from 105 ticks on to 150.
        Due.is("towards each other", x.meets(1, 2), 105);
        Due.is("count(0)", x.count(0), 0);
    }

    private static void meetsUpTo1000() {
        LocoFrames x = new LocoFrames();
        x.loco(1, 20, LocoFrames.SLOW, 0);
        x.loco(2, 20, LocoFrames.SLOW, 100);
        x.frame(1, 128 + 2, 1 ^ 130);
        Due.is("1000 ticks", x.meets(1, 2), 1000);
        x.frame(1, 2, 3);
        x.pass(1);
        x.frame(1, 130, 131);
        Due.is("1001 ticks", x.meets(2, 1), LocoFrames.NONE);
    }

    private static void meetsSendsOrders() {
        LocoFrames x = new LocoFrames();
        x.loco(1, 1, LocoFrames.EVEN, 95);
        x.loco(2, 1, LocoFrames.EVEN, 199);
        x.order(2, 128 + 1, 0);
        x.order(1, 128 + 2, 0);
        // After n ticks 1 is at 93 + 2 * n, 2 is at 199 + n.
        Due.is("meets(1, 2)", x.meets(1, 2), 54);
        x.shorts(1, 99);
        Due.is("2 is held and deaf", x.meets(1, 2), 4);
        Due.is("count(2)", x.count(2), 2);
        Due.is("count(4)", x.count(4), 0);
    }

    private static void meetsMindsNoise() {
        LocoFrames x = new LocoFrames();
        x.loco(1, 1, LocoFrames.EVEN, 95);
        x.loco(2, 1, LocoFrames.EVEN, 150);
        x.order(1, 64, 0);
        x.order(1, 64, 0);
        x.order(1, 128 + 1, 0);
        int[] due = {7, LocoFrames.NONE, LocoFrames.NONE, 7};
        for (int noise = 0; noise <= 3; noise++) {
            x.noise(noise);
            Due.is("NOISE " + noise + ": meets(1, 2)", x.meets(1, 2), due[noise]);
            Due.is("NOISE " + noise + ": meets(2, 1)", x.meets(2, 1), due[noise]);
        }
        Due.is("count(6)", x.count(6), 0);
    }

    private static void meetsRefuses() {
        LocoFrames x = rolling(1, 95, 129);
        x.loco(2, 1, 0, 0);
        String before = Due.whole(x);
        Due.refused(x, before, "meets(1, 3)", x.meets(1, 3), LocoFrames.NO_SUCH);
        Due.refused(x, before, "meets(3, 1)", x.meets(3, 1), LocoFrames.NO_SUCH);
        Due.refused(x, before, "meets(3, 3)", x.meets(3, 3), LocoFrames.NO_SUCH);
        Due.refused(x, before, "meets(0, 0)", x.meets(0, 0), LocoFrames.NO_SUCH);
        Due.refused(x, before, "meets(1, 1)", x.meets(1, 1), LocoFrames.BAD_VALUE);
        Due.refused(x, before, "meets(2, 2)", x.meets(2, 2), LocoFrames.BAD_VALUE);
    }

    private static void stepForFindsTheLeast() {
        LocoFrames x = new LocoFrames();
        x.loco(1, 1, LocoFrames.EVEN, 0);
        x.loco(2, 1, LocoFrames.SLOW, 0);
        x.loco(3, 1, LocoFrames.FAST, 0);
        int[] tenths = {0, 1, 10, 11, 20, 21, 100, 270, 271, 279, 280};
        int[] even = {0, 1, 1, 2, 2, 3, 10, 27, 28, 28, 28};
        int[] slow = {0, 2, 6, 6, 8, 8, 17, 28, 28, 28, 28};
        int[] fast = {0, 1, 1, 1, 1, 2, 6, 23, 23, 26, 27};
        for (int i = 0; i < tenths.length; i++) {
            Due.is("EVEN " + tenths[i], x.stepFor(1, tenths[i]), even[i]);
            Due.is("SLOW " + tenths[i], x.stepFor(2, tenths[i]), slow[i]);
            Due.is("FAST " + tenths[i], x.stepFor(3, tenths[i]), fast[i]);
        }
        x.frame(1, 28, 29);
        x.pass(5);
        Due.is("its own way does not matter", x.stepFor(1, 50), 5);
    }

    private static void stepForRefuses() {
        LocoFrames x = rolling(1, 95, 129);
        String before = Due.whole(x);
        Due.refused(x, before, "stepFor(2, 0)", x.stepFor(2, 0), LocoFrames.NO_SUCH);
        Due.refused(x, before, "stepFor(2, 281)", x.stepFor(2, 281), LocoFrames.NO_SUCH);
        Due.refused(x, before, "stepFor(1, 281)", x.stepFor(1, 281), LocoFrames.BAD_VALUE);
        Due.refused(x, before, "stepFor(1, -1)", x.stepFor(1, -1), LocoFrames.BAD_VALUE);
    }
}
