/** Promises 22 (undo), 23 (save), 24 (restore). */
public final class UndoTest {
    public static void main(String[] args) {
        eachChangeIsUndone();
        changesThatChangeNothing();
        questionsAreNoChanges();
        sixStatesAreKept();
        errorsDropNoState();
        roundsAreBroughtBack();
        undoKeepsPadAndSlots();
        undoBringsBackWhatWentByForNoise();
        saveAndRestore();
        saveRefuses();
        restoreIsAChange();
        aSlotIsKeptAndOverwritten();
        Due.end();
    }

    private static LocoFrames busy() {
        LocoFrames x = new LocoFrames();
        x.loco(4, 7, LocoFrames.FAST, 780);
        x.loco(2, 3, LocoFrames.SLOW, 310);
        x.frame(0, 128 + 17, 145);
        x.order(4, 66, 1);
        x.order(0, 5, 0);
        x.shorts(3, 5);
        x.noise(2);
        x.pass(3);
        x.order(2, 30, 3);
        x.order(4, 64, 0);
        return x;
    }

    private static void eachChangeIsUndone() {
        for (int change = 0; change < 9; change++) {
            LocoFrames x = busy();
            x.save(0);
            x.pass(1);
            Due.write(x, "t1");
            String before = Due.seen(x);
            switch (change) {
                case 0: Due.is("loco", x.loco(3, 1, 1, 1), 3); break;
                case 1: Due.is("lift", x.lift(2), 1); break;
                case 2: Due.is("noise", x.noise(9), 2); break;
                case 3: Due.is("order", x.order(3, 3, 3), 2); break;
                case 4: Due.is("frame", x.frame(4, 67, 4 ^ 67), 1); break;
                case 5: Due.is("shorts", x.shorts(6, 9), 0); break;
                case 6: Due.is("pass", x.pass(9), 1); break;
                case 7: Due.is("carryOut", x.carryOut(), 1); break;
                default: Due.is("restore", x.restore(0), 2); break;
            }
            Due.is("change " + change + " changed something", before.equals(Due.seen(x)) ? 1 : 0, 0);
            Due.is("change " + change + ": undo()", x.undo(), 5);
            Due.same("change " + change + " undone", Due.seen(x), before);
        }
    }

    private static void changesThatChangeNothing() {
        LocoFrames x = new LocoFrames();
        x.noise(0);
        x.shorts(0, 0);
        Due.is("count(11)", x.count(11), 2);
        Due.is("undo()", x.undo(), 1);
        Due.is("undo()", x.undo(), 0);
        Due.is("undo()", x.undo(), LocoFrames.NOT_POSSIBLE);
        Due.is("count(11) then", x.count(11), 0);
    }

    private static void questionsAreNoChanges() {
        LocoFrames x = busy();
        x.undo();
        x.undo();
        int before = x.count(11);
        x.of(4, 0);
        x.address(0);
        x.waiting(0, 0);
        x.block(0, 0);
        x.reaches(4, 5);
        x.settles(4);
        x.meets(2, 4);
        x.stepFor(4, 9);
        Due.write(x, "x");
        x.fault();
        x.carryOut();
        x.wipe();
        x.save(0);
        x.loco(4, 1, 1, 1);
        x.restore(1);
        Due.is("count(11)", x.count(11), before);
        Due.is("four are left", before, 4);
    }

    private static void sixStatesAreKept() {
        LocoFrames x = new LocoFrames();
        for (int i = 1; i <= 9; i++) {
            x.pass(i);
            Due.is("count(11) after " + i, x.count(11), Math.min(6, i));
        }
        int[] ticks = {36, 28, 21, 15, 10, 6};
        for (int i = 0; i < 6; i++) {
            Due.is("undo() " + i, x.undo(), 5 - i);
            Due.is("count(0) " + i, x.count(0), ticks[i]);
        }
        Due.refused(x, Due.whole(x), "a seventh undo()", x.undo(), LocoFrames.NOT_POSSIBLE);
        x.pass(50);
        x.pass(40);
        Due.is("recorded anew: undo()", x.undo(), 1);
        Due.is("recorded anew: count(0)", x.count(0), 56);
        x.pass(10);
        x.pass(0);
        Due.is("an error between", x.undo(), 1);
        Due.is("count(0)", x.count(0), 56);
        Due.is("undo()", x.undo(), 0);
        Due.is("count(0)", x.count(0), 6);
    }

    private static void errorsDropNoState() {
        LocoFrames x = new LocoFrames();
        for (int i = 1; i <= 8; i++) {
            x.pass(i);
        }
        x.pass(0);
        x.loco(0, 0, 0, 0);
        x.lift(5);
        x.noise(10);
        x.order(0, 0, 4);
        x.frame(256, 0, 0);
        x.shorts(8, 0);
        x.carryOut();
        x.restore(0);
        int[] ticks = {28, 21, 15, 10, 6, 3};
        for (int i = 0; i < 6; i++) {
            Due.is("behind errors: undo() " + i, x.undo(), 5 - i);
            Due.is("behind errors: count(0) " + i, x.count(0), ticks[i]);
        }
    }

    private static void roundsAreBroughtBack() {
        LocoFrames x = new LocoFrames();
        x.loco(1, 1, LocoFrames.EVEN, 790);
        x.frame(1, 156, 157);
        x.save(0);
        x.pass(40);
        Due.is("two rounds", x.of(1, 11), 1002);
        x.pass(60);
        Due.is("four rounds", x.of(1, 11), 1004);
        x.undo();
        Due.is("two rounds again", x.of(1, 11), 1002);
        x.restore(0);
        Due.is("none, restored", x.of(1, 11), 1000);
    }

    private static void undoKeepsPadAndSlots() {
        LocoFrames x = new LocoFrames();
        x.loco(1, 1, 0, 0);
        x.pass(5);
        Due.write(x, "t7");
        x.save(1);
        Due.is("undo()", x.undo(), 1);
        Due.is("count(0)", x.count(0), 0);
        Due.is("the pad", x.count(10), 2);
        Due.is("the slot", x.restore(1), 1);
        Due.is("count(0) of the slot", x.count(0), 5);
        x.carryOut();
        x.undo();
        Due.is("the pad that was carried out", x.count(10), 0);
        Due.is("count(0) before it", x.count(0), 5);
    }

    private static void undoBringsBackWhatWentByForNoise() {
        LocoFrames x = new LocoFrames();
        x.noise(4);
        for (int i = 0; i < 9; i++) {
            x.order(1, 64, 0);
        }
        x.pass(4);
        Due.is("the ticks 0 to 3", x.count(6), 0);
        x.save(0);
        x.pass(1);
        Due.is("the tick 4", x.count(6), 1);
        x.undo();
        Due.is("undone", x.count(6), 0);
        x.pass(1);
        Due.is("the tick 4 again", x.count(6), 1);
        x.pass(1);
        Due.is("the tick 5", x.count(6), 1);
        x.restore(0);
        x.pass(1);
        Due.is("the tick 4, restored", x.count(6), 1);
    }

    private static void saveAndRestore() {
        LocoFrames x = busy();
        String before = Due.seen(x);
        Due.is("save(0)", x.save(0), 2);
        x.lift(4);
        x.loco(9, 9, 1, 9);
        x.loco(8, 9, 1, 9);
        x.pass(50);
        x.shorts(0, 3);
        x.noise(0);
        Due.write(x, "t5");
        String after = Due.seen(x);
        Due.is("save(1)", x.save(1), 3);
        Due.is("restore(0)", x.restore(0), 2);
        Due.same("restored from 0", Due.seen(x), before);
        Due.is("the pad stays", x.count(10), 2);
        Due.is("restore(1)", x.restore(1), 3);
        Due.same("restored from 1", Due.seen(x), after);
    }

    private static void saveRefuses() {
        LocoFrames x = busy();
        x.save(1);
        String before = Due.whole(x);
        int[] bad = {-1, 2, Integer.MAX_VALUE, Integer.MIN_VALUE};
        for (int slot : bad) {
            Due.refused(x, before, "save(" + slot + ")", x.save(slot), LocoFrames.BAD_VALUE);
        }
        Due.is("nothing is in 0", x.restore(0), LocoFrames.NOT_POSSIBLE);
        Due.is("save of no locos", new LocoFrames().save(1), 0);
    }

    private static void restoreIsAChange() {
        LocoFrames x = new LocoFrames();
        x.save(0);
        x.loco(5, 5, 0, 5);
        x.pass(3);
        String before = Due.seen(x);
        Due.is("restore(0)", x.restore(0), 0);
        Due.is("count(11)", x.count(11), 3);
        Due.is("undo()", x.undo(), 2);
        Due.same("before it", Due.seen(x), before);
        Due.is("undo()", x.undo(), 1);
        Due.is("count(0)", x.count(0), 0);
    }

    private static void aSlotIsKeptAndOverwritten() {
        LocoFrames x = new LocoFrames();
        x.loco(5, 5, 0, 5);
        x.frame(5, 156, 5 ^ 156);
        x.save(0);
        String first = Due.seen(x);
        x.restore(0);
        x.pass(20);
        x.lift(5);
        Due.is("restore(0) again", x.restore(0), 1);
        Due.same("the slot was not changed by what came later", Due.seen(x), first);
        x.pass(7);
        String second = Due.seen(x);
        x.save(0);
        x.lift(5);
        Due.is("restore(0), overwritten", x.restore(0), 1);
        Due.same("the later one", Due.seen(x), second);
        x.lift(5);
        Due.is("save(0) without locos", x.save(0), 0);
        x.loco(6, 6, 1, 6);
        Due.is("restore(0) without locos", x.restore(0), 0);
        Due.is("no loco is in it", x.address(0), LocoFrames.NO_SUCH);
    }
}
