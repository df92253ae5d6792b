import java.util.function.Supplier;

/** The boundary cases of the promises 18 to 21 and of the Texts: put, wipe, fault, carryOut. */
public final class TextsEdgesTest {
    /** Where a number stands: what is before it, and what makes a right text of it. */
    private static final String[][] NUMBERS = {{"o", ":1!1"}, {"o1:", "!1"}, {"f", ",1,1"}, {"f1,", ",1"},
        {"f1,1,", ""}, {"s1*", ""}, {"t", ""}, {"t1;o", ":1!1;t1"}, {"s1*1;t", ";s1*1"}};

    public static void main(String[] args) {
        putTakesOneToEight();
        putRefusesCodes();
        putRefusesGaps();
        putUpTo80();
        putTakesTheLowestBitsAsTheLast();
        wipeOfEveryLength();
        faultOfTheEmptyPad();
        faultsOfNumbers();
        faultsOfDigitsAndBlocks();
        faultsOfEndsTooEarly();
        faultsBetweenOrders();
        theFirstFaultIsTold();
        faultsOnAFullPad();
        carryOutTakesTheLastValues();
        carryOutStopsAtTheFirstOnesOutOfRange();
        carryOutStopsWhenTheStationIsFull();
        carryOutRefuses();
        carryOutOfNoneIsAChange();
        carryOutWithAFullHistory();
        carryOutOfOneAndOfMany();
        Due.end();
    }

    private static LocoFrames with(String text) {
        LocoFrames x = new LocoFrames();
        Due.is("written: " + text, Due.write(x, text), text.length());
        return x;
    }

    /** Promise 18: 1 to 8 characters, the least (33) and the greatest (126) at each place. */
    private static void putTakesOneToEight() {
        for (int length = 1; length <= 8; length++) {
            for (int place = 0; place < length; place++) {
                for (int code = 33; code <= 126; code += 93) {
                    long characters = 0;
                    for (int i = 0; i < length; i++) {
                        characters |= (i == place ? code : 80L) << 8 * i;
                    }
                    LocoFrames x = new LocoFrames();
                    Due.is("put(" + Long.toHexString(characters) + ")", x.put(characters), length);
                    Due.is("the length of the pad", x.count(10), length);
                    Due.is("no change", x.count(11), 0);
                }
            }
        }
    }

    /** Codes beside 33 to 126 at each place; out of range comes before a pad that is full. */
    private static void putRefusesCodes() {
        int[] bad = {1, 32, 127, 128, 255};
        for (int length = 1; length <= 8; length++) {
            for (int place = 0; place < length; place++) {
                for (int code : bad) {
                    long characters = 0;
                    for (int i = 0; i < length; i++) {
                        characters |= (i == place ? (long) code : 80L) << 8 * i;
                    }
                    long number = characters;
                    String call = "put(" + Long.toHexString(number) + ")";
                    Scene.refused(call, x -> x.put(number), LocoFrames.BAD_VALUE);
                }
            }
        }
    }

    /** No character, and bits above 8 bits that are 0, each of them alone. */
    private static void putRefusesGaps() {
        Scene.refused("put(0)", x -> x.put(0), LocoFrames.BAD_VALUE);
        for (int characters = 0; characters <= 6; characters++) {
            long few = Due.packed("t1;t23".substring(0, characters));
            for (int bit = 8 * characters + 8; bit < 64; bit++) {
                long number = few | 1L << bit;
                LocoFrames x = new LocoFrames();
                Due.is("put(" + Long.toHexString(number) + ")", x.put(number), LocoFrames.BAD_VALUE);
                Due.is("nothing is put", x.count(10), 0);
            }
            long letter = few | 80L << 8 * characters + 8;
            Scene.refused("put(" + Long.toHexString(letter) + ")", x -> x.put(letter), LocoFrames.BAD_VALUE);
        }
        Scene.refused("put(least)", x -> x.put(Long.MIN_VALUE), LocoFrames.BAD_VALUE);
        Scene.refused("put(greatest)", x -> x.put(Long.MAX_VALUE), LocoFrames.BAD_VALUE);
        Scene.refused("put(-1)", x -> x.put(-1), LocoFrames.BAD_VALUE);
    }

    /** From each length of the pad up to 80 with each number of characters. */
    private static void putUpTo80() {
        for (int before = 70; before <= 80; before++) {
            for (int more = 1; more <= 8; more++) {
                LocoFrames x = with(Due.repeated("t", before));
                boolean fits = before + more <= 80;
                long characters = Due.packed(Due.repeated("t", more));
                Due.is(more + " to " + before, x.put(characters), fits ? before + more : LocoFrames.TOO_MANY);
                Due.is("the length then", x.count(10), fits ? before + more : before);
            }
        }
        Scene.FULL.refusedHere("put of one", x -> x.put('1'), LocoFrames.TOO_MANY);
        Scene.FULL.refusedHere("put of eight", x -> x.put(Due.packed(";t1;t1;t")), LocoFrames.TOO_MANY);
    }

    private static void putTakesTheLowestBitsAsTheLast() {
        LocoFrames x = new LocoFrames();
        x.put(0x743132L);
        Due.is("t12", x.carryOut(), 1);
        Due.is("12 ticks", x.count(0), 12);
        x.put(0x743B317433323BL << 8 | '1');
        Due.is("a text that is none", x.fault(), 1);
        x.wipe();
        x.put(0x74313B74323B7433L);
        Due.is("t1;t2;t3", x.carryOut(), 3);
        Due.is("18 ticks", x.count(0), 18);
    }

    /** Promise 19. */
    private static void wipeOfEveryLength() {
        for (int length = 0; length <= 80; length++) {
            LocoFrames x = with(Due.repeated("s", length));
            Due.is("wipe()", x.wipe(), length);
            Due.is("empty then", x.count(10), 0);
            Due.is("wipe() of the empty pad", x.wipe(), 0);
        }
        for (Scene scene : Scene.values()) {
            LocoFrames y = scene.made();
            int length = y.count(10);
            String seen = Due.seen(scene.made());
            Due.is(scene + ": wipe()", y.wipe(), length);
            Due.same(scene + ": the rest stays", Due.seen(y), seen);
            Due.is(scene + ": the history stays", y.count(11), scene.made().count(11));
            Due.is(scene + ": the empty pad's fault", y.fault(), 0);
            Due.is(scene + ": room again", Due.write(y, Due.repeated("t", 80)), 80);
        }
    }

    /** Promise 20. */
    private static void faultOfTheEmptyPad() {
        LocoFrames x = new LocoFrames();
        Due.is("a new one", x.fault(), 0);
        Due.write(x, "t1");
        Due.is("t1", x.fault(), LocoFrames.NONE);
        x.wipe();
        Due.is("a wiped one", x.fault(), 0);
        Due.write(x, "t1");
        x.carryOut();
        Due.is("one that was carried out", x.fault(), 0);
        Due.is("carryOut() of it", x.carryOut(), LocoFrames.BAD_TEXT);
    }

    /** A number is 0 to 999, without leading zeros, wherever it stands. */
    private static void faultsOfNumbers() {
        String[] good = {"0", "1", "9", "10", "19", "99", "100", "109", "190", "199", "900", "998", "999"};
        String[] wrong = {"", "00", "01", "09", "000", "1000", "9999", "9990", "1001", "10000", "-1", "a", "1a", "99a",
            "999a", "0a", "/", "1/", "99/"};
        int[] at = {0, 1, 1, 1, 1, 3, 3, 3, 3, 3, 0, 0, 1, 2, 3, 1, 0, 1, 2};
        for (String[] place : NUMBERS) {
            for (String number : good) {
                String text = place[0] + number + place[1];
                Due.is("fault of " + text, with(text).fault(), LocoFrames.NONE);
                LocoFrames begun = with(place[0] + number);
                int due = place[1].isEmpty() ? LocoFrames.NONE : place[0].length() + number.length();
                boolean whole = place[1].startsWith(";");
                Due.is("fault of " + place[0] + number, begun.fault(), whole ? LocoFrames.NONE : due);
            }
            for (int i = 0; i < wrong.length; i++) {
                String text = place[0] + wrong[i] + place[1];
                Due.is("fault of " + text, with(text).fault(), place[0].length() + at[i]);
            }
        }
    }

    /** A digit is 0 to 3, a block 0 to 7; both are one character. */
    private static void faultsOfDigitsAndBlocks() {
        for (char c = 33; c <= 126; c++) {
            if (c == ';') {
                continue;
            }
            boolean digit = c >= '0' && c <= '3';
            Due.is("o1:1!" + c, with("o1:1!" + c).fault(), digit ? LocoFrames.NONE : 5);
            Due.is("o1:1!3" + c, with("o1:1!3" + c).fault(), 6);
            boolean block = c >= '0' && c <= '7';
            Due.is("s" + c + "*5", with("s" + c + "*5").fault(), block ? LocoFrames.NONE : 1);
            Due.is("s7" + c, with("s7" + c).fault(), c == '*' ? 3 : 2);
            boolean kind = c == 'o' || c == 'f' || c == 's' || c == 't';
            Due.is("" + c, with("" + c).fault(), kind ? 1 : 0);
            Due.is("t1;" + c, with("t1;" + c).fault(), kind ? 4 : 3);
            Due.is("t1" + c, with("t1" + c).fault(), c >= '0' && c <= '9' ? LocoFrames.NONE : 2);
            Due.is("t0" + c, with("t0" + c).fault(), 2);
            Due.is("t999" + c, with("t999" + c).fault(), 4);
        }
    }

    /** Each beginning of a text: its length, where it is no text of its own. */
    private static void faultsOfEndsTooEarly() {
        String text = "o12:345!3;f0,10,999;s7*88;t5;o1:1!0";
        int[] whole = {9, 17, 18, 19, 24, 25, 28, 35};
        for (int length = 0; length <= text.length(); length++) {
            boolean right = false;
            for (int w : whole) {
                right |= w == length;
            }
            String begun = text.substring(0, length);
            Due.is("fault of " + begun, with(begun).fault(), right ? LocoFrames.NONE : length);
            LocoFrames x = with(begun);
            Due.is("carryOut() of " + begun, x.carryOut() == LocoFrames.BAD_TEXT ? 1 : 0, right ? 0 : 1);
            Due.is("its pad then", x.count(10), right ? 0 : length);
        }
    }

    private static void faultsBetweenOrders() {
        String[] orders = {"o1:2!3", "f1,2,3", "s4*5", "t6"};
        for (String one : orders) {
            for (String other : orders) {
                int at = one.length();
                Due.is(one + ";" + other, with(one + ";" + other).fault(), LocoFrames.NONE);
                Due.is(one + other, with(one + other).fault(), at);
                Due.is(one + "," + other, with(one + "," + other).fault(), at);
                Due.is(one + ";;" + other, with(one + ";;" + other).fault(), at + 1);
                Due.is(";" + one, with(";" + one).fault(), 0);
                Due.is(one + ";", with(one + ";").fault(), at + 1);
                Due.is(one + ";" + other + ";", with(one + ";" + other + ";").fault(), at + other.length() + 2);
            }
        }
    }

    private static void theFirstFaultIsTold() {
        Due.is("two faults", with("t1;x;y").fault(), 3);
        Due.is("a fault and an end too early", with("t01;t").fault(), 2);
        Due.is("one that was appended behind a right text", appended("t1", "t1"), 2);
        Due.is("an end that is not too early any more", appended("t1;", "t1"), LocoFrames.NONE);
        Due.is("a number that goes on", appended("t9", "99"), LocoFrames.NONE);
        Due.is("a number that goes on too far", appended("t9", "999"), 4);
        Due.is("a fault stays where it is", appended("t1x", "t1"), 2);
    }

    private static int appended(String first, String second) {
        LocoFrames x = with(first);
        x.fault();
        Due.write(x, second);
        return x.fault();
    }

    private static void faultsOnAFullPad() {
        String most = Due.repeated("t1;", 26);
        Due.is("80 characters, 27 orders", with(most + "t1").fault(), LocoFrames.NONE);
        Due.is("80 characters, an end too early", with(most + "s1").fault(), 80);
        Due.is("80 characters, the last is wrong", with(most + "t;").fault(), 79);
        Due.is("79 characters, an end too early", with(most + "t").fault(), 79);
        Due.is("78 characters, an end too early", with(most).fault(), 78);
        String tens = Due.repeated("o10:100!0;", 7);
        Due.is("o at the end", with(tens + "o99:999!10").fault(), 79);
        Due.is("o at the end, 79", with(tens + "o99:999!3").fault(), LocoFrames.NONE);
        Due.is("f at the end, 80", with(tens + "f10,10,100").fault(), LocoFrames.NONE);
        Due.is("f at the end, a digit too many", with(tens + "f1,10,1000").fault(), 79);
        Due.is("f at the end, too early", with(tens + "f100,1000,").fault(), 78);
        Due.is("s at the end, too early", with(tens + "s0*1;t1;s*").fault(), 79);
    }

    /** Promise 21: the values up to which the orders of a text return no error. */
    private static void carryOutTakesTheLastValues() {
        String[] good = {"o0:0!0", "o99:255!3", "f0,0,0", "f255,255,255", "f255,0,255", "f0,255,255", "s0*0", "s7*99",
            "t1", "t99"};
        for (String order : good) {
            LocoFrames x = with(order + ";t1");
            Due.is("carryOut() of " + order, x.carryOut(), 2);
            Due.is("the pad is empty", x.count(10), 0);
            Due.is("a change", x.count(11), 1);
        }
        LocoFrames o = with("o99:255!3");
        o.carryOut();
        Due.is("its address", o.waiting(0, 0), 99);
        Due.is("its datum", o.waiting(0, 1), 255);
        Due.is("its urgency", o.waiting(0, 2), 3);
        LocoFrames s = with("s7*99");
        s.carryOut();
        Due.is("its ticks", s.block(7, 0), 99);
        LocoFrames f = with("f255,255,0;f255,255,255");
        Due.is("frames that nobody hears are carried out", f.carryOut(), 2);
        Due.is("counted", f.count(4), 2);
        Due.is("one is not whole", f.count(5), 1);
    }

    private static void carryOutStopsAtTheFirstOnesOutOfRange() {
        String[] bad = {"o100:0!0", "o999:0!0", "o1:256!0", "o1:999!3", "f256,0,0", "f0,256,0", "f0,0,256",
            "f999,999,0", "s0*100", "s7*999", "t0", "t100", "t999"};
        for (String order : bad) {
            LocoFrames first = with(order + ";s0*5");
            Due.is("carryOut() of " + order, first.carryOut(), 0);
            Due.same("nothing is done by " + order, Due.seen(first), Due.seen(new LocoFrames()));
            Due.is("the pad is empty", first.count(10), 0);
            Due.is("a change", first.count(11), 1);
            LocoFrames third = with("s1*7;t2;" + order + ";s0*5;t1");
            Due.is("carryOut() of two and " + order, third.carryOut(), 2);
            Due.is("the first is done", third.block(1, 0), 5);
            Due.is("the second is done", third.count(0), 2);
            Due.is("the fourth is not", third.block(0, 0), 0);
            Due.is("no order waits", third.count(2), 0);
            Due.is("no frame came", third.count(4), 0);
            Due.is("the pad is empty", third.count(10), 0);
            LocoFrames last = with("t2;" + order);
            Due.is("carryOut() of one and " + order, last.carryOut(), 1);
        }
    }

    private static void carryOutStopsWhenTheStationIsFull() {
        LocoFrames x = new LocoFrames();
        for (int i = 0; i < 18; i++) {
            x.order(1, 64, 0);
        }
        Due.write(x, "o2:2!2;o3:3!3;o4:4!3;t1");
        Due.is("carryOut()", x.carryOut(), 2);
        Due.is("20 wait", x.count(2), 20);
        Due.is("the first", x.waiting(0, 0), 3);
        Due.is("no tick", x.count(0), 0);
        Due.write(x, "t1;o4:4!3;o5:5!3;t1");
        Due.is("a tick makes room for one", x.carryOut(), 2);
        Due.is("20 wait again", x.count(2), 20);
        Due.is("the first then", x.waiting(0, 0), 4);
        Due.is("a tick", x.count(0), 1);
    }

    /** The pad stays, and so does all the rest, if the pad has a fault. */
    private static void carryOutRefuses() {
        Scene.FRESH.refusedHere("carryOut() of the empty pad", LocoFrames::carryOut, LocoFrames.BAD_TEXT);
        String[] bad = {"", "t", "t1;", "t1;x", "t1;t1000", "o1:1!4", "s8*1", "t01", "t1;t1;t1;", "s1*1;o1:1!3;f1,1,1x"};
        for (String text : bad) {
            for (Scene scene : Scene.values()) {
                Supplier<LocoFrames> maker = () -> {
                    LocoFrames x = scene.made();
                    x.wipe();
                    Due.write(x, text);
                    return x;
                };
                Scene.refusedBy(maker, scene + ": carryOut() of " + text, LocoFrames::carryOut, LocoFrames.BAD_TEXT);
                LocoFrames y = maker.get();
                y.carryOut();
                Due.is("the pad stays", y.count(10), text.length());
            }
        }
    }

    private static void carryOutOfNoneIsAChange() {
        LocoFrames x = with("t0");
        x.loco(1, 1, 0, 0);
        String before = Due.seen(x);
        Due.is("carryOut()", x.carryOut(), 0);
        Due.is("two changes", x.count(11), 2);
        Due.is("undo() of none", x.undo(), 1);
        Due.same("as before", Due.seen(x), before);
        Due.is("undo() of the loco", x.undo(), 0);
        Due.is("no loco", x.count(1), 0);
    }

    /** It is one change, with all of its orders: the oldest state is dropped, and no more. */
    private static void carryOutWithAFullHistory() {
        LocoFrames x = new LocoFrames();
        for (int i = 1; i <= 6; i++) {
            x.pass(i);
        }
        Due.write(x, "t10;t10;t10;s1*1;o1:1!1;f1,1,1;t10;t10");
        Due.is("carryOut()", x.carryOut(), 8);
        Due.is("six still", x.count(11), 6);
        int[] ticks = {21, 15, 10, 6, 3, 1};
        for (int i = 0; i < 6; i++) {
            Due.is("undo()", x.undo(), 5 - i);
            Due.is("ticks", x.count(0), ticks[i]);
        }
        Due.is("the state without ticks was dropped", x.undo(), LocoFrames.NOT_POSSIBLE);
    }

    private static void carryOutOfOneAndOfMany() {
        for (int orders = 1; orders <= 27; orders++) {
            LocoFrames x = with(Due.repeated("t1;", orders - 1) + "t1");
            Due.is("carryOut() of " + orders, x.carryOut(), orders);
            Due.is("ticks of " + orders, x.count(0), orders);
            Due.is("one change", x.count(11), 1);
            Due.is("undo()", x.undo(), 0);
            Due.is("no tick", x.count(0), 0);
            Due.is("nothing is carried out twice", x.carryOut(), LocoFrames.BAD_TEXT);
        }
    }
}
