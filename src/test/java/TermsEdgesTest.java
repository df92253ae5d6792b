/** The boundary cases that the Terms name: curves, the ring, frames, datums, the station, noise, a tick. */
public final class TermsEdgesTest {
    private static final int[] SLOW = {0, 0, 1, 3, 5, 8, 12, 17, 22, 28, 35, 43, 51, 60, 70, 80, 91, 103, 115, 128,
        142, 157, 172, 188, 205, 223, 241, 260, 280};
    private static final int[] FAST = {0, 20, 39, 57, 75, 92, 108, 123, 138, 152, 165, 177, 189, 200, 210, 220, 229,
        237, 245, 252, 258, 263, 268, 272, 275, 277, 279, 280, 280};
    private static final int[] GAIN = {60, 30, 20, 15, 12, 10, 8, 7, 6, 6, 5, 5, 4, 4, 4, 3, 3, 3, 3, 3};

    public static void main(String[] args) {
        everyStepOfEveryCurve();
        divisionsAreRoundedDown();
        blocksBeginAndEnd();
        blocksAreEnteredAndLeft();
        theGreatestSpeedEitherWay();
        thePlaceGoesRound();
        tenthsAreAlways0To9();
        aCheckThatIsOffByABit();
        everyDatumFromTheOtherWay();
        theLastStepAndWhatIsBehindIt();
        aStopAtOnceEitherWay();
        noiseOfEveryNumber();
        noise0SpoilsNothing();
        noiseSinceTheBeginning();
        anOrderIsSentOnce();
        likeOnesInTheirOrder();
        aTickWithoutOrders();
        aShortOfOneTick();
        aShortAtTheEndsOfItsBlock();
        aShortFromTheTickOn();
        aShortKeepsTheTenths();
        Due.end();
    }

    private static void sent(LocoFrames x, int address, int datum) {
        x.frame(address, datum, address ^ datum);
    }

    /** EVEN 10 * s; SLOW s * s * 10 / 28; FAST 20 * s - s * s * 10 / 28; below 0 backwards. */
    private static void everyStepOfEveryCurve() {
        for (int s = 0; s <= 28; s++) {
            LocoFrames x = new LocoFrames();
            x.loco(1, 1, LocoFrames.EVEN, 0);
            x.loco(2, 1, LocoFrames.SLOW, 0);
            x.loco(3, 1, LocoFrames.FAST, 0);
            int[] due = {10 * s, SLOW[s], FAST[s]};
            for (int way = 1; way >= 0; way--) {
                sent(x, 0, 128 * way + s);
                x.pass(20);
                for (int i = 0; i < 3; i++) {
                    int speed = 1000 + (way == 1 ? due[i] : -due[i]);
                    Due.is("curve " + i + ", step " + s + ", way " + way, x.of(i + 1, 5), speed);
                    Due.is("the speed comes there", x.of(i + 1, 4), speed);
                    Due.is("the step", x.of(i + 1, 6), s);
                    Due.is("the way", x.of(i + 1, 7), way);
                }
            }
        }
    }

    /** By at most 60 / mass, rounded down, in both directions. */
    private static void divisionsAreRoundedDown() {
        for (int mass = 1; mass <= 20; mass++) {
            LocoFrames x = new LocoFrames();
            x.loco(1, mass, LocoFrames.EVEN, 400);
            sent(x, 1, 128 + 28);
            x.pass(1);
            Due.is("mass " + mass + ", forwards", x.of(1, 4), 1000 + GAIN[mass - 1]);
            sent(x, 1, 28);
            x.pass(2);
            Due.is("mass " + mass + ", backwards", x.of(1, 4), 1000 - GAIN[mass - 1]);
        }
    }

    /** Blocks of 100: the first and the last place of each. */
    private static void blocksBeginAndEnd() {
        for (int block = 0; block < 8; block++) {
            LocoFrames x = new LocoFrames();
            x.loco(1, 1, 0, 100 * block);
            x.loco(2, 1, 0, 100 * block + 99);
            Due.is("the first place of block " + block, x.of(1, 9), block);
            Due.is("the last place of block " + block, x.of(2, 9), block);
            for (int other = 0; other < 8; other++) {
                Due.is("of 2 locos in block " + block + ", in " + other, x.block(other, 1), other == block ? 2 : 0);
            }
            Due.is("a block with two", x.count(8), 1);
        }
    }

    private static void blocksAreEnteredAndLeft() {
        for (int block = 0; block < 8; block++) {
            LocoFrames x = new LocoFrames();
            x.loco(1, 6, LocoFrames.EVEN, 100 * block + 99);
            sent(x, 1, 129);
            x.pass(1);
            Due.is("forwards out of block " + block, x.of(1, 9), (block + 1) % 8);
            Due.is("forwards out of block " + block + ": place", x.of(1, 2), (100 * block + 100) % 800);
            Due.is("forwards out of block " + block + ": rounds", x.of(1, 11), block == 7 ? 1001 : 1000);
            LocoFrames y = new LocoFrames();
            y.loco(1, 20, LocoFrames.EVEN, 100 * block);
            sent(y, 1, 1);
            y.pass(1);
            Due.is("backwards out of block " + block, y.of(1, 9), (block + 7) % 8);
            Due.is("backwards out of block " + block + ": place", y.of(1, 2), (100 * block + 799) % 800);
            Due.is("backwards out of block " + block + ": rounds", y.of(1, 11), block == 0 ? 999 : 1000);
        }
    }

    /** A speed is -280 to 280: 8 locos have 2240 together, either way. */
    private static void theGreatestSpeedEitherWay() {
        for (int way = 0; way <= 1; way++) {
            LocoFrames x = new LocoFrames();
            for (int i = 1; i <= 8; i++) {
                x.loco(i, 1, i % 3, 100);
            }
            sent(x, 0, 128 * way + 28);
            x.pass(4);
            int almost = way == 1 ? 240 : -240;
            Due.is("way " + way + ": speed after 4 ticks", x.of(1, 4), 1000 + almost);
            Due.is("way " + way + ": all together", x.count(9), 10000 + 8 * almost);
            x.pass(1);
            int most = way == 1 ? 280 : -280;
            for (int i = 1; i <= 8; i++) {
                Due.is("way " + way + ": the speed of " + i, x.of(i, 4), 1000 + most);
            }
            Due.is("way " + way + ": all at their most", x.count(9), 10000 + 8 * most);
            x.pass(99);
            Due.is("way " + way + ": no more than that", x.count(9), 10000 + 8 * most);
        }
    }

    /** With 28 units in a tick: over the seam, and just not over it. */
    private static void thePlaceGoesRound() {
        int[] from = {771, 772, 799, 0};
        int[] to = {799, 0, 27, 28};
        for (int i = 0; i < 4; i++) {
            // In the first five ticks the speeds are 60, 120, 180, 240, 280: 88 units together.
            LocoFrames x = new LocoFrames();
            x.loco(1, 1, LocoFrames.EVEN, Math.floorMod(from[i] - 88, 800));
            sent(x, 1, 156);
            x.pass(5);
            Due.is("forwards: before", x.of(1, 2), from[i]);
            int rounds = x.of(1, 11);
            x.pass(1);
            Due.is("forwards from " + from[i], x.of(1, 2), to[i]);
            Due.is("forwards from " + from[i] + ": rounds", x.of(1, 11), rounds + (i == 1 || i == 2 ? 1 : 0));
            LocoFrames y = new LocoFrames();
            y.loco(1, 1, LocoFrames.EVEN, (to[i] + 88) % 800);
            sent(y, 1, 28);
            y.pass(5);
            Due.is("backwards: before", y.of(1, 2), to[i]);
            rounds = y.of(1, 11);
            y.pass(1);
            Due.is("backwards from " + to[i], y.of(1, 2), from[i]);
            Due.is("backwards from " + to[i] + ": rounds", y.of(1, 11), rounds - (i == 1 || i == 2 ? 1 : 0));
        }
        LocoFrames z = new LocoFrames();
        z.loco(1, 1, LocoFrames.EVEN, 0);
        sent(z, 1, 156);
        z.pass(5);
        z.pass(99);
        // 88 units, and 99 times 28 more.
        Due.is("many rounds: place", z.of(1, 2), (88 + 99 * 28) % 800);
        Due.is("many rounds", z.of(1, 11), 1003);
        sent(z, 1, 28);
        z.pass(99);
        z.pass(99);
        Due.is("more rounds back than there", z.of(1, 11) < 1000 ? 1 : 0, 1);
    }

    private static void tenthsAreAlways0To9() {
        LocoFrames x = new LocoFrames();
        x.loco(1, 20, LocoFrames.SLOW, 799);
        sent(x, 1, 128 + 2);
        for (int i = 1; i <= 10; i++) {
            x.pass(1);
            Due.is("a tenth forwards, tick " + i + ": tenths", x.of(1, 3), i % 10);
            Due.is("a tenth forwards, tick " + i + ": place", x.of(1, 2), i == 10 ? 0 : 799);
            Due.is("a tenth forwards, tick " + i + ": rounds", x.of(1, 11), i == 10 ? 1001 : 1000);
        }
        sent(x, 1, 2);
        x.pass(1);
        // Its speed went from 1 to -1 at once.
        Due.is("a tenth backwards of 0: tenths", x.of(1, 3), 9);
        Due.is("a tenth backwards of 0: place", x.of(1, 2), 799);
        Due.is("a tenth backwards of 0: rounds", x.of(1, 11), 1000);
        x.pass(9);
        Due.is("ten: tenths", x.of(1, 3), 0);
        Due.is("ten: place", x.of(1, 2), 799);
        x.pass(1);
        Due.is("eleven: tenths", x.of(1, 3), 9);
        Due.is("eleven: place", x.of(1, 2), 798);
    }

    /** It is whole if the check is address XOR datum, and only then. */
    private static void aCheckThatIsOffByABit() {
        int[][] frames = {{1, 129}, {0, 129}, {1, 1}, {1, 255}, {0, 0}, {0, 255}};
        for (int[] f : frames) {
            LocoFrames x = new LocoFrames();
            x.loco(1, 1, 0, 0);
            int whole = f[0] ^ f[1];
            for (int bit = 0; bit < 8; bit++) {
                Due.is("check " + (whole ^ 1 << bit), x.frame(f[0], f[1], whole ^ 1 << bit), 0);
                Due.is("not whole", x.count(5), bit + 1);
            }
            int sum = f[0] + f[1] & 255;
            Due.is("the sum as the check", x.frame(f[0], f[1], sum), sum == whole ? 1 : 0);
            int broken = x.count(5);
            Due.is("the check itself", x.frame(f[0], f[1], whole), 1);
            Due.is("counted", x.count(4), 10);
            Due.is("it is whole", x.count(5), broken);
        }
        LocoFrames y = new LocoFrames();
        Due.is("nobody is there", y.frame(0, 0, 0), 0);
        Due.is("counted all the same", y.count(4), 1);
        Due.is("whole all the same", y.count(5), 0);
    }

    /** From step 5 backwards at full speed with lights 3, by frames and by orders. */
    private static void everyDatumFromTheOtherWay() {
        for (int datum = 0; datum <= 255; datum++) {
            for (int byOrder = 0; byOrder <= 1; byOrder++) {
                LocoFrames x = new LocoFrames();
                x.loco(1, 1, LocoFrames.EVEN, 400);
                sent(x, 1, 5);
                sent(x, 1, 67);
                x.pass(1);
                if (byOrder == 1) {
                    Due.is("datum " + datum + " waits", x.order(1, datum, 0), 1);
                    Due.is("datum " + datum + " is sent", x.pass(1), 1);
                } else {
                    Due.is("datum " + datum + " is heard", x.frame(1, datum, 1 ^ datum), 1);
                }
                boolean forwards = datum >= 128 && datum <= 156;
                int step = forwards ? datum - 128 : datum <= 28 ? datum : datum == 31 ? 0 : 5;
                String name = "datum " + datum + (byOrder == 1 ? " by an order: " : " by a frame: ");
                Due.is(name + "step", x.of(1, 6), step);
                Due.is(name + "way", x.of(1, 7), forwards ? 1 : 0);
                Due.is(name + "lights", x.of(1, 8), datum >= 64 && datum <= 67 ? datum - 64 : 3);
                Due.is(name + "goal", x.of(1, 5), 1000 + (forwards ? 10 * step : -10 * step));
                Due.is(name + "heard", x.of(1, 10), 3);
                if (byOrder == 0) {
                    Due.is(name + "speed", x.of(1, 4), datum == 31 ? 1000 : 950);
                }
            }
        }
    }

    private static void theLastStepAndWhatIsBehindIt() {
        int[] nothing = {29, 30, 32, 63, 68, 127, 157, 158, 159, 160, 191, 192, 195, 196, 255};
        for (int datum : nothing) {
            LocoFrames x = new LocoFrames();
            x.loco(1, 1, LocoFrames.EVEN, 400);
            sent(x, 1, 128 + 9);
            x.pass(3);
            LocoFrames y = new LocoFrames();
            y.loco(1, 1, LocoFrames.EVEN, 400);
            sent(y, 1, 128 + 9);
            y.pass(3);
            Due.is("heard: " + datum, x.frame(1, datum, 1 ^ datum), 1);
            for (int what = 0; what < 12; what++) {
                Due.is(datum + " does nothing to " + what, x.of(1, what), y.of(1, what) + (what == 10 ? 1 : 0));
            }
        }
    }

    /** The step is 0, and the speed is 0, too; all else stays, and it goes on from there. */
    private static void aStopAtOnceEitherWay() {
        for (int way = 0; way <= 1; way++) {
            LocoFrames x = new LocoFrames();
            x.loco(1, 11, LocoFrames.EVEN, 400);
            sent(x, 1, 128 * way + 28);
            sent(x, 1, 66);
            x.pass(6);
            int[] due = new int[12];
            for (int what = 0; what < 12; what++) {
                due[what] = x.of(1, what);
            }
            Due.is("way " + way + ": it goes", due[4], way == 1 ? 1030 : 970);
            Due.is("way " + way + ": it is between two places", due[3] > 0 ? 1 : 0, 1);
            due[4] = 1000;
            due[5] = 1000;
            due[6] = 0;
            due[10]++;
            Due.is("way " + way + ": frame", x.frame(1, 31, 30), 1);
            for (int what = 0; what < 12; what++) {
                Due.is("way " + way + ", stopped: of(1, " + what + ")", x.of(1, what), due[what]);
            }
            x.pass(3);
            for (int what = 0; what < 12; what++) {
                Due.is("way " + way + ", it stands: of(1, " + what + ")", x.of(1, what), due[what]);
            }
        }
    }

    /** With a frame in each tick, those of the ticks n, 2 * n and so on are spoiled. */
    private static void noiseOfEveryNumber() {
        for (int number = 1; number <= 9; number++) {
            LocoFrames x = new LocoFrames();
            x.loco(1, 1, 0, 0);
            x.noise(number);
            int heard = 0;
            for (int tick = 0; tick <= 2 * number + 1; tick++) {
                x.order(1, 64, 0);
                x.pass(1);
                heard += tick > 0 && tick % number == 0 ? 0 : 1;
                Due.is("NOISE " + number + ", tick " + tick + ": spoiled", x.count(6), tick / number);
                Due.is("NOISE " + number + ", tick " + tick + ": not whole", x.count(5), tick / number);
                Due.is("NOISE " + number + ", tick " + tick + ": heard", x.of(1, 10), heard);
                Due.is("NOISE " + number + ", tick " + tick + ": frames", x.count(4), tick + 1);
            }
        }
    }

    private static void noise0SpoilsNothing() {
        LocoFrames x = new LocoFrames();
        x.loco(1, 1, 0, 0);
        for (int tick = 0; tick < 15; tick++) {
            x.order(1, 64, 0);
            x.pass(1);
        }
        Due.is("NOISE 0 from the beginning: spoiled", x.count(6), 0);
        Due.is("NOISE 0 from the beginning: heard", x.of(1, 10), 15);
        x.noise(9);
        x.order(1, 64, 0);
        x.pass(1);
        Due.is("15 ticks went by since the beginning", x.count(6), 1);
        x.noise(0);
        x.pass(30);
        x.order(1, 64, 0);
        x.pass(1);
        Due.is("NOISE 0 again", x.count(6), 1);
    }

    /** NOISE that comes in the middle counts from the beginning, or from the last one spoiled. */
    private static void noiseSinceTheBeginning() {
        for (int number = 1; number <= 9; number++) {
            for (int before = number - 1; before <= number; before++) {
                LocoFrames x = new LocoFrames();
                if (before > 0) {
                    x.pass(before);
                }
                x.noise(number);
                x.order(0, 64, 0);
                x.pass(1);
                Due.is("NOISE " + number + " after " + before + " ticks", x.count(6), before == number ? 1 : 0);
                LocoFrames y = new LocoFrames();
                y.noise(1);
                y.pass(1);
                y.order(0, 64, 0);
                y.pass(1);
                Due.is("the tick 1 is spoiled", y.count(6), 1);
                if (before > 1) {
                    y.pass(before - 1);
                }
                y.noise(number);
                y.order(0, 64, 0);
                y.pass(1);
                int gone = Math.max(1, before);
                Due.is("NOISE " + number + " in the tick " + (1 + gone), y.count(6), gone >= number ? 2 : 1);
            }
        }
    }

    private static void anOrderIsSentOnce() {
        LocoFrames x = new LocoFrames();
        x.loco(1, 1, 0, 0);
        x.order(1, 64, 0);
        x.order(1, 65, 0);
        x.order(1, 66, 0);
        Due.is("all three at once", x.pass(3), 3);
        Due.is("none waits", x.count(2), 0);
        Due.is("waiting(0, 0)", x.waiting(0, 0), LocoFrames.NO_SUCH);
        Due.is("none is sent", x.pass(3), 0);
        Due.is("heard", x.of(1, 10), 3);
        Due.is("room for 20", filled(x), 20);
        Due.is("twenty in twenty ticks", x.pass(99), 20);
        Due.is("count(4)", x.count(4), 23);
        Due.is("a spoiled one is gone, too", spoiledIsGone(), 0);
    }

    private static int filled(LocoFrames x) {
        int answer = 0;
        for (int i = 0; i < 20; i++) {
            answer = x.order(1, 64, i % 4);
        }
        return answer;
    }

    private static int spoiledIsGone() {
        LocoFrames x = new LocoFrames();
        x.noise(1);
        x.pass(1);
        x.order(1, 64, 0);
        Due.is("it is sent", x.pass(1), 1);
        Due.is("it is spoiled", x.count(6), 1);
        return x.count(2);
    }

    /** Of like ones the one that came first: 20 with one urgency, then with all four. */
    private static void likeOnesInTheirOrder() {
        for (int urgency = 0; urgency <= 3; urgency++) {
            LocoFrames x = new LocoFrames();
            for (int i = 0; i < 20; i++) {
                x.order(i, 100 + i, urgency);
            }
            for (int rank = 0; rank < 20; rank++) {
                Due.is("like ones, rank " + rank, x.waiting(rank, 0), rank);
                Due.is("like ones, datum of rank " + rank, x.waiting(rank, 1), 100 + rank);
                Due.is("like ones, urgency of rank " + rank, x.waiting(rank, 2), urgency);
            }
        }
        LocoFrames y = new LocoFrames();
        for (int i = 0; i < 20; i++) {
            y.order(i, 64, i % 4);
        }
        for (int sent = 0; sent < 20; sent++) {
            Due.is("sent as number " + sent, y.waiting(0, 0), 3 - sent / 5 + 4 * (sent % 5));
            Due.is("the last one", y.waiting(19 - sent, 0), 16);
            Due.is("behind it", y.waiting(20 - sent, 0), LocoFrames.NO_SUCH);
            y.pass(1);
        }
        LocoFrames z = new LocoFrames();
        z.order(1, 1, 3);
        z.order(2, 2, 0);
        z.pass(1);
        z.order(3, 3, 0);
        z.order(4, 4, 1);
        Due.is("one that comes later, more urgent", z.waiting(0, 0), 4);
        Due.is("then the older one", z.waiting(1, 0), 2);
        Due.is("then the younger one", z.waiting(2, 0), 3);
    }

    private static void aTickWithoutOrders() {
        LocoFrames x = new LocoFrames();
        x.noise(1);
        Due.is("pass(99)", x.pass(99), 0);
        Due.is("no frames", x.count(4), 0);
        Due.is("none spoiled", x.count(6), 0);
        Due.is("none broken", x.count(5), 0);
    }

    /** A short of one tick stops and makes deaf in one tick, and is gone then. */
    private static void aShortOfOneTick() {
        LocoFrames x = new LocoFrames();
        x.loco(1, 1, LocoFrames.EVEN, 450);
        sent(x, 1, 128 + 6);
        x.pass(1);
        Due.is("its speed", x.of(1, 4), 1060);
        x.shorts(4, 1);
        Due.is("it is still as fast", x.of(1, 4), 1060);
        x.order(1, 128 + 1, 0);
        x.pass(1);
        Due.is("it is stopped", x.of(1, 4), 1000);
        Due.is("its goal stays", x.of(1, 5), 1060);
        Due.is("it stands where it was", x.of(1, 2), 456);
        Due.is("it did not hear", x.of(1, 10), 1);
        Due.is("the short is gone", x.block(4, 0), 0);
        Due.is("no block with a short", x.count(7), 0);
        x.order(1, 128 + 3, 0);
        x.pass(1);
        Due.is("it hears again", x.of(1, 6), 3);
        Due.is("and goes", x.of(1, 4), 1030);
        x.shorts(4, 0);
        x.pass(1);
        Due.is("a short of 0 ticks is none", x.of(1, 4), 1030);
    }

    private static void aShortAtTheEndsOfItsBlock() {
        for (int block = 0; block < 8; block++) {
            LocoFrames x = new LocoFrames();
            x.loco(1, 1, LocoFrames.EVEN, (100 * block + 799) % 800);
            x.loco(2, 1, LocoFrames.EVEN, 100 * block);
            x.loco(3, 1, LocoFrames.EVEN, 100 * block + 99);
            x.loco(4, 1, LocoFrames.EVEN, (100 * block + 100) % 800);
            Due.is("all hear", x.frame(0, 0, 0), 4);
            x.shorts(block, 9);
            int[] hears = {1, 0, 0, 1};
            for (int i = 0; i < 4; i++) {
                Due.is("block " + block + ": " + (i + 1) + " hears", x.frame(i + 1, 129, i + 1 ^ 129), hears[i]);
            }
            Due.is("block " + block + ": two of all hear", x.frame(0, 130, 130), 2);
            x.pass(1);
            for (int i = 0; i < 4; i++) {
                Due.is("block " + block + ": the speed of " + (i + 1), x.of(i + 1, 4), 1000 + 20 * hears[i]);
            }
        }
    }

    /** Shorts are looked at where a loco is before it goes, with the ticks that are left then. */
    private static void aShortFromTheTickOn() {
        LocoFrames x = new LocoFrames();
        x.loco(1, 1, LocoFrames.EVEN, 296);
        sent(x, 1, 128 + 6);
        x.shorts(3, 2);
        x.pass(1);
        Due.is("place 302 with 60", x.of(1, 2), 302);
        Due.is("the speed of the tick", x.of(1, 4), 1060);
        Due.is("a tick is left", x.block(3, 0), 1);
        x.pass(1);
        Due.is("stopped in the last tick", x.of(1, 4), 1000);
        Due.is("place still 302", x.of(1, 2), 302);
        Due.is("none is left", x.block(3, 0), 0);
        x.pass(1);
        Due.is("it goes again", x.of(1, 4), 1060);
        LocoFrames y = new LocoFrames();
        y.loco(1, 1, LocoFrames.EVEN, 299);
        sent(y, 1, 128 + 1);
        y.shorts(3, 1);
        y.pass(1);
        Due.is("place 300", y.of(1, 2), 300);
        y.pass(1);
        Due.is("the short was over before it stood in it", y.of(1, 4), 1010);
        for (int ticks = 0; ticks <= 99; ticks += 33) {
            LocoFrames z = new LocoFrames();
            z.shorts(0, ticks);
            z.shorts(7, ticks);
            for (int left = ticks; left > 0; left -= 33) {
                Due.is("left of " + ticks, z.block(0, 0), left);
                Due.is("blocks with a short", z.count(7), 2);
                z.pass(32);
                Due.is("a tick less than 33 later", z.block(7, 0), left - 32);
                z.pass(1);
            }
            Due.is("none is left of " + ticks, z.block(0, 0), 0);
            Due.is("no block with a short", z.count(7), 0);
        }
    }

    private static void aShortKeepsTheTenths() {
        LocoFrames x = new LocoFrames();
        x.loco(1, 7, LocoFrames.SLOW, 450);
        sent(x, 1, 128 + 8);
        x.pass(2);
        // SLOW 8 is 22; speeds 8 and 16.
        Due.is("two ticks: place", x.of(1, 2), 452);
        Due.is("two ticks: tenths", x.of(1, 3), 4);
        x.shorts(4, 3);
        x.pass(3);
        Due.is("three in a short: speed", x.of(1, 4), 1000);
        Due.is("three in a short: place", x.of(1, 2), 452);
        Due.is("three in a short: tenths", x.of(1, 3), 4);
        x.pass(1);
        Due.is("one more: place", x.of(1, 2), 453);
        Due.is("one more: tenths", x.of(1, 3), 2);
    }
}
