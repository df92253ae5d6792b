/** Promises 18 (put), 19 (wipe), 20 (fault), 21 (carryOut). */
public final class TextsTest {
    public static void main(String[] args) {
        putAppends();
        putUpTo80();
        wipeEmpties();
        faultsOfEachOrder();
        everyCharacterAtEveryPlace();
        faultAtTheEndOfAFullPad();
        carryOutDoesEachOrder();
        carryOutStopsAtAnError();
        carryOutIsOneChange();
        framesOfATextAreNotSpoiled();
        shortsOfATextReplace();
        carryOutRefuses();
        carryOutAFullPad();
        Due.end();
    }

    private static LocoFrames with(String text) {
        LocoFrames x = new LocoFrames();
        Due.is("written: " + text, Due.write(x, text), text.length());
        return x;
    }

    private static void putAppends() {
        LocoFrames x = new LocoFrames();
        Due.is("put t", x.put('t'), 1);
        Due.is("put 12;t3", x.put(Due.packed("12;t3")), 6);
        Due.is("count(10)", x.count(10), 6);
        Due.is("fault()", x.fault(), LocoFrames.NONE);
        Due.is("put is no change", x.count(11), 0);
        Due.is("carryOut()", x.carryOut(), 2);
        Due.is("count(0)", x.count(0), 15);
        Due.is("put the least character", x.put(33), 1);
        Due.is("put the greatest one, eight times", x.put(0x7e7e7e7e7e7e7e7eL), 9);
    }

    private static void putUpTo80() {
        LocoFrames x = new LocoFrames();
        Due.write(x, Due.repeated("t", 76));
        String before = Due.whole(x);
        Due.refused(x, before, "put five", x.put(Due.packed("tttt1")), LocoFrames.TOO_MANY);
        Due.refused(x, before, "put eight", x.put(Due.packed("tttttttt")), LocoFrames.TOO_MANY);
        Due.refused(x, before, "put a wrong one and four", x.put(0x1f74747474L), LocoFrames.BAD_VALUE);
        Due.is("put four", x.put(Due.packed("tttt")), 80);
        before = Due.whole(x);
        Due.refused(x, before, "put one", x.put('t'), LocoFrames.TOO_MANY);
        Due.refused(x, before, "put none", x.put(0), LocoFrames.BAD_VALUE);
    }

    private static void wipeEmpties() {
        LocoFrames x = with("t1;t2");
        Due.is("wipe()", x.wipe(), 5);
        Due.is("count(10)", x.count(10), 0);
        Due.is("wipe() again", x.wipe(), 0);
        Due.is("wipe is no change", x.count(11), 0);
        Due.is("fault()", x.fault(), 0);
        Due.write(x, "t");
        Due.is("nothing of the old text is read", x.fault(), 1);
    }

    private static void faultsOfEachOrder() {
        String[] good = {"o0:0!0", "o99:255!3", "o999:999!3", "f0,0,0", "f999,100,10", "s0*0", "s7*999", "t0", "t1",
            "t999", "t1;o1:2!3;f1,2,3;s4*5", "t10;t10"};
        for (String text : good) {
            Due.is("fault of " + text, with(text).fault(), LocoFrames.NONE);
        }
        String[] early = {"", "o", "o1", "o1:", "o1:1", "o1:1!", "f", "f12", "f12,", "f12,0", "f12,0,", "s", "s1",
            "s1*", "t", "t1;", "t1;o", "o1:1!1;"};
        for (String text : early) {
            Due.is("fault of " + text + ", which ends too early", with(text).fault(), text.length());
        }
        String[] wrong = {"x", "1", ";", "ox", "o01:1!1", "o1000:1!1", "o1;", "o1:x", "o1:1000!1", "o1:1:", "o1:1!4",
            "o1:1!11", "f,", "f1;", "f00,", "f1,,", "f1,02", "f1,2;", "f1,2,x", "f1,2,3,", "f1,2,3456", "s8", "s-",
            "s11", "s1*x", "s1*00", "s1*1000", "s1*1*", "t-1", "t00", "t1000", "t9999;t1", "t1,", "t1;;", "t1;x",
            "t1;t01", "T1", "t1;1", "o1:1!x", "s1:1", "t1!"};
        int[] at = {0, 0, 0, 1, 2, 4, 2, 3, 6, 4, 5,
            6, 1, 2, 2, 3, 4, 4, 5, 6, 8, 1, 1,
            2, 3, 4, 6, 4, 1, 2, 4, 4, 2, 3, 3,
            5, 0, 3, 5, 2, 2};
        for (int i = 0; i < wrong.length; i++) {
            Due.is("fault of " + wrong[i], with(wrong[i]).fault(), at[i]);
        }
    }

    /** What can stand at each place of a text, told by a list of characters for each place. */
    private static void everyCharacterAtEveryPlace() {
        String digits = "0123456789";
        String text = "o10:0!3;f7,100,0;s7*12;t5";
        String[] can = {"ofst", digits.substring(1) + "0", digits + ":", digits, "!", "0123", ";",
            "ofst", digits, digits + ",", digits, digits + ",", digits + ",", ",", digits, ";",
            "ofst", "01234567", "*", digits, digits + ";", digits + ";", "ofst", digits};
        int[] place = {0, 1, 2, 4, 5, 6, 7,
            8, 9, 10, 11, 12, 13, 14, 15, 16,
            17, 18, 19, 20, 21, 22, 23, 24};
        for (int i = 0; i < place.length; i++) {
            for (char c = 33; c <= 126; c++) {
                String changed = text.substring(0, place[i]) + c;
                int fault = with(changed).fault();
                boolean stands = can[i].indexOf(c) >= 0;
                Due.is("does it stand: " + changed, fault == place[i] ? 0 : 1, stands ? 1 : 0);
            }
        }
    }

    private static void faultAtTheEndOfAFullPad() {
        Due.is("a full one that ends too early", with(Due.repeated("t12;", 19) + "t1;t").fault(), 80);
        Due.is("a full one that ends with ;", with(Due.repeated("t12;", 20)).fault(), 80);
        Due.is("a full one that is right", with(Due.repeated("t12;", 19) + "t123").fault(), LocoFrames.NONE);
        Due.is("a full one with a fault at its end", with(Due.repeated("t12;", 19) + "t12,").fault(), 79);
        Due.is("as many orders as can be", with(Due.repeated("t1;", 26) + "t1").fault(), LocoFrames.NONE);
    }

    private static void carryOutDoesEachOrder() {
        LocoFrames x = with("o3:148!1;f3,129,130;s7*4;t1;o3:67!2");
        x.loco(3, 10, LocoFrames.EVEN, 100);
        Due.is("carryOut()", x.carryOut(), 5);
        Due.is("count(0)", x.count(0), 1);
        Due.is("count(4)", x.count(4), 2);
        Due.is("heard", x.of(3, 10), 2);
        Due.is("step", x.of(3, 6), 20);
        Due.is("speed", x.of(3, 4), 1006);
        Due.is("block(7, 0)", x.block(7, 0), 3);
        Due.is("waiting(0, 0)", x.waiting(0, 0), 3);
        Due.is("waiting(0, 1)", x.waiting(0, 1), 67);
        Due.is("waiting(0, 2)", x.waiting(0, 2), 2);
        Due.is("count(10)", x.count(10), 0);
    }

    private static void carryOutStopsAtAnError() {
        String[] texts = {"t2;t100;t3", "t2;t0;t3", "t2;o100:1!1;t3", "t2;o1:256!1;t3", "t2;f256,1,1;t3",
            "t2;f1,256,1;t3", "t2;f1,1,256;t3", "t2;s1*100;t3"};
        for (String text : texts) {
            LocoFrames x = with(text);
            Due.is("carryOut() of " + text, x.carryOut(), 1);
            Due.is("ticks of " + text, x.count(0), 2);
            Due.is("orders of " + text, x.count(2), 0);
            Due.is("frames of " + text, x.count(4), 0);
            Due.is("shorts of " + text, x.count(7), 0);
            Due.is("pad after " + text, x.count(10), 0);
            Due.is("changes after " + text, x.count(11), 1);
        }
        LocoFrames full = with("o1:1!1;o2:2!2");
        for (int i = 0; i < 19; i++) {
            full.order(5, 5, 0);
        }
        Due.is("room for one", full.carryOut(), 1);
        Due.is("count(2)", full.count(2), 20);
    }

    private static void carryOutIsOneChange() {
        LocoFrames x = with("t5;s1*9;t2;f0,64,64;o1:1!1");
        x.loco(1, 1, 0, 0);
        String before = Due.seen(x);
        Due.is("carryOut()", x.carryOut(), 5);
        Due.is("count(11)", x.count(11), 2);
        Due.is("undo()", x.undo(), 1);
        Due.same("all of it is undone", Due.seen(x), before);
        Due.is("the pad stays empty", x.count(10), 0);
        Due.write(x, "t0;t5");
        Due.is("none carried out", x.carryOut(), 0);
        Due.is("a change all the same", x.count(11), 2);
        Due.is("the pad is empty", x.count(10), 0);
        Due.same("nothing is done", Due.seen(x), before);
    }

    /** Noise spoils what the station sends; an "f" comes to the track as by frame(). */
    private static void framesOfATextAreNotSpoiled() {
        LocoFrames x = with("f1,65,64;t1;f1,66,67;o1:67!0;t1");
        x.loco(1, 1, 0, 0);
        x.noise(1);
        x.pass(5);
        Due.is("carryOut()", x.carryOut(), 5);
        Due.is("both frames are heard", x.of(1, 10), 2);
        Due.is("lights", x.of(1, 8), 2);
        Due.is("the order is spoiled", x.count(6), 1);
        Due.is("and nothing else", x.count(5), 1);
        Due.is("count(4)", x.count(4), 3);
    }

    private static void shortsOfATextReplace() {
        LocoFrames x = with("s2*40;s2*41;s2*7;s3*0");
        x.shorts(2, 50);
        x.shorts(3, 6);
        Due.is("carryOut()", x.carryOut(), 4);
        Due.is("the last one stands", x.block(2, 0), 7);
        Due.is("0 ends it", x.block(3, 0), 0);
    }

    private static void carryOutRefuses() {
        String[] bad = {"", "t1;", "t1;x", "t1;t1000", "o1:1!4", "t01"};
        for (String text : bad) {
            LocoFrames x = with(text);
            x.loco(1, 1, 0, 0);
            String before = Due.whole(x);
            Due.refused(x, before, "carryOut() of " + text, x.carryOut(), LocoFrames.BAD_TEXT);
            Due.is("the pad stays", x.count(10), text.length());
        }
    }

    private static void carryOutAFullPad() {
        LocoFrames x = with(Due.repeated("t1;", 26) + "t1");
        Due.is("carryOut()", x.carryOut(), 27);
        Due.is("count(0)", x.count(0), 27);
        Due.write(x, Due.repeated("t99;", 19) + "t99");
        Due.is("carryOut() of 20", x.carryOut(), 20);
        Due.is("count(0) then", x.count(0), 27 + 1980);
    }
}
