import java.util.function.ToLongFunction;

/** The boundary cases of the promises 22 to 24: undo, save, restore. */
public final class UndoEdgesTest {
    private static final int[] NO_SLOT = {-1, 2, 3, Integer.MIN_VALUE, Integer.MAX_VALUE};

    public static void main(String[] args) {
        undoOfNone();
        undoOfOneToNine();
        undoAndChangesInTurn();
        eachChangeRecords();
        changesWithoutADifferenceRecord();
        noErrorRecords();
        noQuestionRecords();
        undoKeepsThePad();
        undoKeepsTheSlots();
        undoOfEverythingElse();
        saveRefuses();
        saveTakes();
        restoreRefusesSlots();
        restoreRefusesWhatWasNotSaved();
        restoreKeepsTheSlot();
        restoreKeepsThePadAndTheHistory();
        restoreOfFewerAndOfMoreLocos();
        twentyOrdersComeBack();
        Due.end();
    }

    /** Promise 22: an empty history, of a new object and of one that was undone. */
    private static void undoOfNone() {
        Scene.FRESH.refusedHere("undo()", LocoFrames::undo, LocoFrames.NOT_POSSIBLE);
        for (Scene scene : Scene.values()) {
            LocoFrames x = scene.made();
            int changes = x.count(11);
            for (int left = changes - 1; left >= 0; left--) {
                Due.is(scene + ": undo()", x.undo(), left);
            }
            Scene.refusedBy(() -> undone(scene), scene + ": undo() of none", LocoFrames::undo, LocoFrames.NOT_POSSIBLE);
        }
    }

    private static LocoFrames undone(Scene scene) {
        LocoFrames x = scene.made();
        int changes = x.count(11);
        for (int i = 0; i < changes; i++) {
            x.undo();
        }
        return x;
    }

    /** A history of at most 6 states: with one more, the oldest one is dropped. */
    private static void undoOfOneToNine() {
        for (int changes = 1; changes <= 15; changes++) {
            LocoFrames x = new LocoFrames();
            for (int i = 1; i <= changes; i++) {
                Due.is("pass(1)", x.pass(1), 0);
            }
            int kept = Math.min(6, changes);
            Due.is("kept of " + changes, x.count(11), kept);
            for (int left = kept - 1; left >= 0; left--) {
                Due.is("undo() of " + changes, x.undo(), left);
                Due.is("ticks then", x.count(0), changes - kept + left);
            }
            Due.is("no more of " + changes, x.undo(), LocoFrames.NOT_POSSIBLE);
            Due.is("ticks still", x.count(0), changes - kept);
        }
    }

    private static void undoAndChangesInTurn() {
        LocoFrames x = new LocoFrames();
        for (int i = 0; i < 20; i++) {
            x.pass(5);
            x.pass(3);
            Due.is("undo()", x.undo(), Math.min(5, i + 1));
            Due.is("ticks", x.count(0), i + 5);
            x.undo();
            x.pass(1);
            Due.is("ticks go on", x.count(0), i + 1);
            // Of the six that are kept at most, two were undone, and one came.
            Due.is("kept", x.count(11), Math.min(5, i + 1));
        }
    }

    private static final String[] CHANGES = {"loco", "lift", "noise", "order", "frame", "shorts", "pass", "carryOut",
        "restore"};

    private static long changed(LocoFrames x, int change) {
        switch (change) {
            case 0: return x.loco(Scene.NOBODY, 1, 1, 1);
            case 1: return x.lift(x.address(1));
            case 2: return x.noise(7);
            case 3: return x.order(3, 3, 3);
            case 4: return x.frame(0, 64, 64);
            case 5: return x.shorts(6, 9);
            case 6: return x.pass(9);
            case 7: return x.carryOut();
            default: return x.restore(1);
        }
    }

    /** Each change records the state before it, once. */
    private static void eachChangeRecords() {
        Scene[] scenes = {Scene.BUSY, Scene.LATER};
        for (Scene scene : scenes) {
            for (int change = 0; change < CHANGES.length; change++) {
                LocoFrames x = scene.made();
                String before = Due.seen(x);
                int kept = x.count(11);
                String name = scene + ": " + CHANGES[change];
                Due.is(name + " is no error", changed(x, change) >= 0 ? 1 : 0, 1);
                Due.is(name + " makes a difference", Due.seen(x).equals(before) ? 1 : 0, 0);
                Due.is(name + " is one change", x.count(11), Math.min(6, kept + 1));
                Due.is(name + ": undo()", x.undo(), Math.min(5, kept));
                Due.same(name + " is undone", Due.seen(x), before);
                sameStatesBefore(name, x, scene.made());
            }
        }
    }

    /** As far back as x can be undone. */
    private static void sameStatesBefore(String name, LocoFrames x, LocoFrames y) {
        int changes = x.count(11);
        for (int i = 0; i < changes; i++) {
            x.undo();
            y.undo();
            Due.same(name + ": the states before it", Scene.brief(x), Scene.brief(y));
        }
    }

    private static void changesWithoutADifferenceRecord() {
        LocoFrames x = new LocoFrames();
        Due.is("noise(0)", x.noise(0), 0);
        Due.is("it is recorded", x.count(11), 1);
        Due.is("shorts(3, 0)", x.shorts(3, 0), 0);
        Due.is("it is recorded", x.count(11), 2);
        x.save(0);
        Due.is("restore(0) of what is", x.restore(0), 0);
        Due.is("it is recorded", x.count(11), 3);
        Due.write(x, "s3*0");
        Due.is("carryOut() of what is", x.carryOut(), 1);
        Due.is("it is recorded", x.count(11), 4);
        Due.write(x, "t0");
        Due.is("carryOut() of none", x.carryOut(), 0);
        Due.is("it is recorded", x.count(11), 5);
        x.pass(1);
        for (int left = 5; left >= 0; left--) {
            Due.is("undo()", x.undo(), left);
            Due.is("no tick", x.count(0), 0);
        }
    }

    private static void noErrorRecords() {
        Scene[] scenes = {Scene.BUSY, Scene.LATER};
        for (Scene scene : scenes) {
            LocoFrames x = scene.made();
            x.wipe();
            String before = Due.whole(x);
            long[] answers = {x.loco(0, 1, 1, 1), x.loco(4, 1, 1, 1), x.lift(Scene.NOBODY), x.noise(10),
                x.order(0, 0, 4), x.frame(256, 0, 0), x.shorts(8, 0), x.shorts(0, 100), x.pass(0), x.carryOut(),
                x.restore(2)};
            for (long answer : answers) {
                Due.is(scene + ": an error", answer < 0 ? 1 : 0, 1);
            }
            Due.same(scene + ": nothing is recorded", Due.whole(x), before);
            Due.same(scene + ": nothing is dropped", Scene.past(x), Scene.past(scene.made()));
        }
    }

    private static void noQuestionRecords() {
        LocoFrames x = Scene.BUSY.made();
        x.save(0);
        Due.is("save is no change", x.count(11), 3);
        x.put('1');
        Due.is("put is no change", x.count(11), 3);
        x.fault();
        Due.is("fault is no change", x.count(11), 3);
        x.wipe();
        Due.is("wipe is no change", x.count(11), 3);
        Due.is("undo is none either", x.undo(), 2);
        Due.is("undo() again", x.undo(), 1);
    }

    private static void undoKeepsThePad() {
        LocoFrames x = new LocoFrames();
        x.pass(1);
        Due.write(x, "t5;");
        x.pass(2);
        Due.write(x, "t7");
        x.undo();
        Due.is("the pad after undo()", x.count(10), 5);
        Due.is("its text", x.fault(), LocoFrames.NONE);
        x.undo();
        Due.is("the pad after undo() again", x.count(10), 5);
        Due.is("carryOut()", x.carryOut(), 2);
        Due.is("ticks", x.count(0), 12);
        x.undo();
        Due.is("an empty pad stays empty", x.count(10), 0);
        x.pass(1);
        Due.write(x, "t1");
        x.wipe();
        x.undo();
        Due.is("a wiped pad stays wiped", x.count(10), 0);
    }

    private static void undoKeepsTheSlots() {
        LocoFrames x = new LocoFrames();
        x.loco(1, 1, 0, 0);
        x.save(0);
        x.loco(2, 1, 0, 0);
        x.save(1);
        x.pass(1);
        x.save(0);
        x.undo();
        x.undo();
        x.undo();
        Due.is("no loco", x.count(1), 0);
        Due.is("restore(0)", x.restore(0), 2);
        Due.is("what was saved last in it", x.count(0), 1);
        Due.is("restore(1)", x.restore(1), 2);
        Due.is("what was saved in the other", x.count(0), 0);
        x.undo();
        x.undo();
        Due.is("two restores undone", x.count(1), 0);
        Due.is("restore(1) again", x.restore(1), 2);
    }

    /** All that a tick, a frame, an order, a short and noise change goes back with one undo. */
    private static void undoOfEverythingElse() {
        for (Scene scene : Scene.values()) {
            LocoFrames x = scene.made();
            String before = Due.seen(scene.made());
            x.wipe();
            Due.write(x, "f0,156,156;f0,67,67;f0,1,0;t99;s0*9;o1:1!3;t50");
            Due.is(scene + ": carryOut()", x.carryOut() > 3 ? 1 : 0, 1);
            x.undo();
            Due.same(scene + ": one undo", Due.seen(x), before);
            x = scene.made();
            x.lift(scene.someLoco());
            x.loco(scene.someLoco(), 1, 1, 1);
            x.noise(9);
            x.pass(99);
            int made = scene == Scene.FRESH ? 2 : 4;
            for (int i = 0; i < made; i++) {
                x.undo();
            }
            Due.same(scene + ": lift, loco, noise and pass", Due.seen(x), before);
        }
    }

    /** Promise 23. */
    private static void saveRefuses() {
        for (int slot : NO_SLOT) {
            Scene.refused("save(" + slot + ")", x -> x.save(slot), LocoFrames.BAD_VALUE);
        }
    }

    private static void saveTakes() {
        for (Scene scene : Scene.values()) {
            for (int slot = 0; slot <= 1; slot++) {
                LocoFrames x = scene.made();
                Due.is(scene + ": save(" + slot + ")", x.save(slot), scene.made().count(1));
                Due.same(scene + ": nothing else is different", Due.whole(x), Due.whole(scene.made()));
                LocoFrames y = scene.made();
                y.save(slot);
                LocoFrames z = scene.made();
                Due.is(scene + ": the other slot", y.restore(1 - slot), z.restore(1 - slot));
                Due.same(scene + ": what is in the other slot", Due.seen(y), Due.seen(z));
                y.pass(1);
                Due.is(scene + ": restore(" + slot + ")", y.restore(slot), scene.made().count(1));
                Due.same(scene + ": what was saved", Due.seen(y), Due.seen(scene.made()));
            }
        }
    }

    /** Promise 24: no such slot comes before a slot in which nothing was saved. */
    private static void restoreRefusesSlots() {
        for (int slot : NO_SLOT) {
            Scene.refused("restore(" + slot + ")", x -> x.restore(slot), LocoFrames.BAD_VALUE);
        }
    }

    private static void restoreRefusesWhatWasNotSaved() {
        ToLongFunction<LocoFrames> first = x -> x.restore(0);
        Scene.FRESH.refusedHere("restore(0)", first, LocoFrames.NOT_POSSIBLE);
        Scene.FRESH.refusedHere("restore(1)", x -> x.restore(1), LocoFrames.NOT_POSSIBLE);
        Scene.FULL.refusedHere("restore(0), where only 1 is saved", first, LocoFrames.NOT_POSSIBLE);
        LocoFrames x = new LocoFrames();
        x.save(0);
        Due.is("an object without locos is saved, too", x.restore(0), 0);
        Due.is("but not in the other slot", x.restore(1), LocoFrames.NOT_POSSIBLE);
        x.undo();
        Due.is("undo() leaves the slot", x.restore(0), 0);
    }

    private static void restoreKeepsTheSlot() {
        for (int slot = 0; slot <= 1; slot++) {
            LocoFrames x = Scene.BUSY.made();
            x.save(slot);
            String seen = Due.seen(x);
            for (int i = 0; i < 3; i++) {
                x.pass(20);
                x.lift(4);
                x.noise(i);
                Due.is("restore(" + slot + ") number " + i, x.restore(slot), 3);
                Due.same("the same again", Due.seen(x), seen);
            }
        }
    }

    private static void restoreKeepsThePadAndTheHistory() {
        Scene[] scenes = {Scene.BUSY, Scene.LATER};
        for (Scene scene : scenes) {
            LocoFrames x = scene.made();
            LocoFrames y = scene.made();
            int kept = x.count(11);
            Due.is(scene + ": restore(1)", x.restore(1), 1);
            Due.is(scene + ": the pad stays", x.count(10), 16);
            Due.is(scene + ": the text stays", x.fault(), LocoFrames.NONE);
            Due.is(scene + ": one change more", x.count(11), Math.min(6, kept + 1));
            x.undo();
            Due.same(scene + ": as before", Due.seen(x), Due.seen(y));
            sameStatesBefore(scene + ": restore(1)", x, y);
        }
    }

    /** A slot holds a state of its own: 0 and 8 locos, 0 and 20 orders, one after the other. */
    private static void restoreOfFewerAndOfMoreLocos() {
        LocoFrames x = new LocoFrames();
        x.save(0);
        for (int i = 1; i <= 8; i++) {
            x.loco(i, i, i % 3, 97 * i);
        }
        for (int i = 0; i < 20; i++) {
            x.order(i % 9, 128 + i, i % 4);
        }
        x.shorts(0, 99);
        x.shorts(7, 1);
        String full = Scene.brief(x);
        String none = Due.seen(new LocoFrames());
        x.save(1);
        Due.is("restore(0)", x.restore(0), 0);
        Due.same("a new object", Due.seen(x), none);
        Due.is("restore(1)", x.restore(1), 8);
        Due.same("the full one", Scene.brief(x), full);
        x.pass(1);
        x.lift(1);
        x.undo();
        x.undo();
        Due.same("the full one, undone", Scene.brief(x), full);
        x.undo();
        Due.same("a new object, undone", Due.seen(x), none);
        x.undo();
        Due.same("the full one before both", Scene.brief(x), full);
    }

    /** The last of 20 orders, and of 8 locos, after others stood where they stood. */
    private static void twentyOrdersComeBack() {
        for (int bySlot = 0; bySlot <= 1; bySlot++) {
            LocoFrames x = new LocoFrames();
            for (int i = 1; i <= 8; i++) {
                x.loco(10 * i, 2 * i, i % 3, 97 * i);
            }
            for (int i = 0; i < 20; i++) {
                x.order(10 + i, 130 + i, 1 + i % 3);
            }
            String seen = Due.seen(x);
            x.save(0);
            x.pass(2);
            Due.is("a 19th", x.order(99, 255, 0), 19);
            Due.is("a 20th", x.order(98, 254, 0), 20);
            x.lift(80);
            Due.is("an eighth", x.loco(90, 20, 0, 799), 8);
            if (bySlot == 1) {
                Due.is("restore(0)", x.restore(0), 8);
            } else {
                for (int left = 5; left >= 1; left--) {
                    Due.is("undo()", x.undo(), left);
                }
            }
            Due.same("all 20 and all 8", Due.seen(x), seen);
        }
    }
}
