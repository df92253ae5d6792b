import java.util.ArrayList;
import java.util.Comparator;
import java.util.List;
import java.util.regex.Matcher;
import java.util.regex.Pattern;

/**
 * Long runs of calls, each answer compared with a second reading of the document, which is
 * written for plainness alone: lists, whole copies, places that are never wrapped round.
 */
public final class ModelTest {
    private static final int RUNS = 400;
    /** With a last text of up to three calls and the counts at the end, 512. */
    private static final int CALLS = 512 - 14;
    private static final int[] ODD = {-1, Integer.MIN_VALUE, Integer.MAX_VALUE, 100, 256, 800, 1000};

    private static long seed;
    private static int called;

    public static void main(String[] args) {
        int errors = 0;
        for (int run = 0; run < RUNS; run++) {
            seed = 7919L * run + 1;
            errors += oneRun(run);
        }
        Due.is("there were errors of every kind", errors > RUNS ? 1 : 0, 1);
        Due.end();
    }

    private static int oneRun(int run) {
        LocoFrames x = new LocoFrames();
        Model m = new Model();
        int errors = 0;
        int style = run % 4;
        called = 0;
        while (called < CALLS) {
            String name = "run " + run + ", call " + called + ": ";
            errors += step(x, m, name, style) < 0 ? 1 : 0;
        }
        for (int what = 0; what < 12; what++) {
            Due.is("run " + run + ", at the end: count(" + what + ")", x.count(what), m.count(what));
        }
        return errors;
    }

    private static int any(int below) {
        seed = seed * 6364136223846793005L + 1442695040888963407L;
        return (int) ((seed >>> 33) % below);
    }

    /** A number from least to most, seldom one beside them or an odd one. */
    private static int some(int least, int most) {
        int dice = any(60);
        if (dice == 0) {
            return ODD[any(ODD.length)];
        }
        if (dice == 1) {
            return any(2) == 0 ? least - 1 : most + 1;
        }
        return least + any(most - least + 1);
    }

    private static int someAddress() {
        return any(20) == 0 ? some(0, 99) : 1 + any(10);
    }

    private static int someDatum() {
        switch (any(8)) {
            case 0: return some(0, 255);
            case 1: return 31;
            case 2: return 64 + any(4);
            case 3: return any(29);
            default: return 128 + any(29);
        }
    }

    private static int step(LocoFrames x, Model m, String name, int style) {
        int dice = any(100);
        if (dice < (style == 0 ? 12 : 4)) {
            int[] a = {someAddress(), some(1, 20), some(0, 2), some(0, 799)};
            return looked(name + "loco", a, x.loco(a[0], a[1], a[2], a[3]), m.change("loco", a));
        } else if (dice < 16) {
            int[] a = {any(4) == 0 ? 0 : someAddress(), someDatum(), some(0, 3)};
            return looked(name + "order", a, x.order(a[0], a[1], a[2]), m.change("order", a));
        } else if (dice < 26) {
            int address = any(4) == 0 ? 0 : someAddress();
            int datum = someDatum();
            int[] a = {address, datum, any(6) == 0 ? some(0, 255) : (address ^ datum) & 255};
            return looked(name + "frame", a, x.frame(a[0], a[1], a[2]), m.change("frame", a));
        } else if (dice < 30) {
            int[] a = {some(0, 7), any(2) == 0 ? any(9) : some(0, 99)};
            return looked(name + "shorts", a, x.shorts(a[0], a[1]), m.change("shorts", a));
        } else if (dice < (style == 1 ? 32 : 44)) {
            int[] a = {any(3) > 0 ? 1 + any(5) : some(1, 99)};
            return looked(name + "pass", a, x.pass(a[0]), m.change("pass", a));
        } else if (dice < 46) {
            int[] a = {some(0, 9)};
            return looked(name + "noise", a, x.noise(a[0]), m.change("noise", a));
        } else if (dice < 47) {
            int[] a = {someAddress()};
            return looked(name + "lift", a, x.lift(a[0]), m.change("lift", a));
        } else if (dice < 50) {
            return looked(name + "undo", new int[0], x.undo(), m.undo());
        } else if (dice < 53) {
            int[] a = {some(0, 1)};
            return any(2) == 0 ? looked(name + "save", a, x.save(a[0]), m.save(a[0]))
                    : looked(name + "restore", a, x.restore(a[0]), m.change("restore", a));
        } else if (dice < 68) {
            return text(x, m, name);
        }
        return question(x, m, name);
    }

    private static int looked(String call, int[] arguments, int got, int due) {
        StringBuilder all = new StringBuilder(call).append('(');
        for (int i = 0; i < arguments.length; i++) {
            all.append(i > 0 ? ", " : "").append(arguments[i]);
        }
        Due.is(all.append(')').toString(), got, due);
        called++;
        return got;
    }

    private static int question(LocoFrames x, Model m, String name) {
        int address = someAddress();
        switch (any(9)) {
            case 0: case 1: case 2: {
                int[] a = {address, some(0, 11)};
                return looked(name + "of", a, x.of(a[0], a[1]), m.of(a[0], a[1]));
            }
            case 3: {
                int[] a = {some(0, 8)};
                return looked(name + "address", a, x.address(a[0]), m.address(a[0]));
            }
            case 4: {
                int[] a = {any(8), some(0, 2)};
                return looked(name + "waiting", a, x.waiting(a[0], a[1]), m.waiting(a[0], a[1]));
            }
            case 5: {
                int[] a = {some(0, 7), some(0, 1)};
                return looked(name + "block", a, x.block(a[0], a[1]), m.block(a[0], a[1]));
            }
            case 6: {
                int[] a = {some(0, 11)};
                return looked(name + "count", a, x.count(a[0]), m.count(a[0]));
            }
            default:
                return whatIf(x, m, name, address);
        }
    }

    private static int whatIf(LocoFrames x, Model m, String name, int address) {
        switch (any(4)) {
            case 0: {
                int[] a = {address, some(0, 7)};
                return looked(name + "reaches", a, x.reaches(a[0], a[1]), m.reaches(a[0], a[1]));
            }
            case 1: {
                int[] a = {address};
                return looked(name + "settles", a, x.settles(a[0]), m.settles(a[0]));
            }
            case 2: {
                int[] a = {address, someAddress()};
                return looked(name + "meets", a, x.meets(a[0], a[1]), m.meets(a[0], a[1]));
            }
            default: {
                int[] a = {address, some(0, 280)};
                return looked(name + "stepFor", a, x.stepFor(a[0], a[1]), m.stepFor(a[0], a[1]));
            }
        }
    }

    private static int text(LocoFrames x, Model m, String name) {
        int dice = any(20);
        if (dice == 0) {
            return looked(name + "wipe", new int[0], x.wipe(), m.wipe());
        } else if (dice < 5) {
            return looked(name + "fault", new int[0], x.fault(), m.fault());
        } else if (dice < 12) {
            return looked(name + "carryOut", new int[0], x.carryOut(), m.change("carryOut", new int[0]));
        } else if (dice == 12) {
            long odd = seed << any(40) >>> any(64);
            Due.is(name + "put(" + odd + ")", x.put(odd), m.put(odd));
            called++;
            return 0;
        }
        String piece = (m.pad.length() == 0 ? "" : ";") + someOrder();
        if (any(12) == 0) {
            int at = any(piece.length());
            piece = piece.substring(0, at) + (char) (33 + any(94)) + piece.substring(at + 1);
        }
        int answer = 0;
        for (int from = 0; from < piece.length(); from += 8) {
            long packed = Due.packed(piece.substring(from, Math.min(piece.length(), from + 8)));
            answer = x.put(packed);
            Due.is(name + "put of " + piece, answer, m.put(packed));
            called++;
        }
        return answer;
    }

    private static String someOrder() {
        switch (any(4)) {
            case 0:
                return "o" + Math.floorMod(someAddress(), 1000) + ":" + Math.floorMod(someDatum(), 1000) + "!" + any(4);
            case 1: {
                int address = any(2) * (1 + any(10));
                int datum = 128 + any(29);
                return "f" + address + "," + datum + "," + (address ^ datum);
            }
            case 2:
                return "s" + any(8) + "*" + any(12);
            default:
                return "t" + (any(20) == 0 ? any(1000) : 1 + any(9));
        }
    }

    private static final class Train {
        int address, mass, curve, lights, heard, step, speed;
        boolean backwards;
        long tenthsGone;

        Train copy() {
            Train t = new Train();
            t.address = address;
            t.mass = mass;
            t.curve = curve;
            t.lights = lights;
            t.heard = heard;
            t.step = step;
            t.speed = speed;
            t.backwards = backwards;
            t.tenthsGone = tenthsGone;
            return t;
        }

        int place() {
            return (int) Math.floorMod(Math.floorDiv(tenthsGone, 10L), 800L);
        }

        int block() {
            return place() / 100;
        }

        int forwards(int s) {
            return curve == 0 ? 10 * s : curve == 1 ? s * s * 10 / 28 : 20 * s - s * s * 10 / 28;
        }

        int goal() {
            return backwards ? -forwards(step) : forwards(step);
        }

        void towardsGoal() {
            for (int tenth = 0; tenth < 60 / mass; tenth++) {
                speed += Integer.signum(goal() - speed);
            }
        }
    }

    private static final class World {
        final List<Train> trains = new ArrayList<>();
        final List<int[]> orders = new ArrayList<>();
        final int[] shorts = new int[8];
        int ticks, noise, sinceSpoiled, frames, broken, spoiled;

        World copy() {
            World w = new World();
            for (Train t : trains) {
                w.trains.add(t.copy());
            }
            w.orders.addAll(orders);
            System.arraycopy(shorts, 0, w.shorts, 0, 8);
            w.ticks = ticks;
            w.noise = noise;
            w.sinceSpoiled = sinceSpoiled;
            w.frames = frames;
            w.broken = broken;
            w.spoiled = spoiled;
            return w;
        }

        Train with(int address) {
            for (Train t : trains) {
                if (t.address == address) {
                    return t;
                }
            }
            return null;
        }

        List<int[]> ranked() {
            List<int[]> all = new ArrayList<>(orders);
            all.sort(Comparator.comparingInt(o -> -o[2]));
            return all;
        }

        int comes(int address, int datum, int check) {
            frames++;
            if ((address ^ datum) != check) {
                broken++;
                return 0;
            }
            int hear = 0;
            for (Train t : trains) {
                if ((address == 0 || t.address == address) && shorts[t.block()] == 0) {
                    hear++;
                    t.heard++;
                    obey(t, datum);
                }
            }
            return hear;
        }

        private static void obey(Train t, int datum) {
            if (datum == 31) {
                t.step = 0;
                t.speed = 0;
            } else if (datum <= 28 || datum >= 128 && datum <= 156) {
                t.backwards = datum < 128;
                t.step = datum < 128 ? datum : datum - 128;
            } else if (datum >= 64 && datum <= 67) {
                t.lights = datum - 64;
            }
        }

        boolean tick() {
            boolean sends = !orders.isEmpty();
            if (sends) {
                int[] order = ranked().get(0);
                orders.remove(order);
                boolean spoils = noise > 0 && sinceSpoiled >= noise;
                int check = order[0] ^ order[1];
                if (spoils) {
                    check = check == 255 ? 0 : check + 1;
                    spoiled++;
                    sinceSpoiled = 0;
                }
                comes(order[0], order[1], check);
            }
            for (Train t : trains) {
                if (shorts[t.block()] > 0) {
                    t.speed = 0;
                } else {
                    t.towardsGoal();
                }
            }
            for (Train t : trains) {
                t.tenthsGone += t.speed;
            }
            for (int b = 0; b < 8; b++) {
                if (shorts[b] > 0) {
                    shorts[b]--;
                }
            }
            ticks++;
            sinceSpoiled++;
            return sends;
        }
    }

    private static final class Model {
        static final String NUMBER = "(?:0|[1-9][0-9]{0,2})";
        static final String ORDER = "(?:o" + NUMBER + ":" + NUMBER + "![0-3]|f" + NUMBER + "," + NUMBER + "," + NUMBER
                + "|s[0-7]\\*" + NUMBER + "|t" + NUMBER + ")";
        static final Pattern TEXT = Pattern.compile(ORDER + "(?:;" + ORDER + ")*");

        World w = new World();
        final List<World> past = new ArrayList<>();
        final World[] slots = new World[2];
        String pad = "";

        /** Any change: what it answers, and the state before it in the history if it is no error. */
        int change(String what, int[] a) {
            World before = w.copy();
            int answer = done(what, a);
            if (answer >= 0) {
                past.add(before);
                if (past.size() > 6) {
                    past.remove(0);
                }
            }
            return answer;
        }

        private int done(String what, int[] a) {
            switch (what) {
                case "loco": return loco(a[0], a[1], a[2], a[3]);
                case "lift": return w.trains.removeIf(t -> t.address == a[0]) ? w.trains.size() : -1;
                case "noise": return noise(a[0]);
                case "order": return order(a[0], a[1], a[2]);
                case "frame": return frame(a[0], a[1], a[2]);
                case "shorts": return shorts(a[0], a[1]);
                case "pass": return pass(a[0]);
                case "carryOut": return carryOut();
                default: return restore(a[0]);
            }
        }

        private static boolean out(int number, int least, int most) {
            return number < least || number > most;
        }

        private int loco(int address, int mass, int curve, int place) {
            if (out(address, 1, 99) || out(mass, 1, 20) || out(curve, 0, 2) || out(place, 0, 799)) {
                return -2;
            }
            if (w.with(address) != null) {
                return -5;
            }
            if (w.trains.size() == 8) {
                return -4;
            }
            Train t = new Train();
            t.address = address;
            t.mass = mass;
            t.curve = curve;
            t.tenthsGone = 10L * place;
            w.trains.add(t);
            w.trains.sort(Comparator.comparingInt(one -> one.address));
            return w.trains.size();
        }

        private int noise(int ticks) {
            if (out(ticks, 0, 9)) {
                return -2;
            }
            int before = w.noise;
            w.noise = ticks;
            return before;
        }

        private int order(int address, int datum, int urgency) {
            if (out(address, 0, 99) || out(datum, 0, 255) || out(urgency, 0, 3)) {
                return -2;
            }
            if (w.orders.size() == 20) {
                return -4;
            }
            w.orders.add(new int[] {address, datum, urgency});
            return w.orders.size();
        }

        private int frame(int address, int datum, int check) {
            boolean bad = out(address, 0, 255) || out(datum, 0, 255) || out(check, 0, 255);
            return bad ? -2 : w.comes(address, datum, check);
        }

        private int shorts(int block, int ticks) {
            if (out(block, 0, 7)) {
                return -1;
            }
            if (out(ticks, 0, 99)) {
                return -2;
            }
            int before = w.shorts[block];
            w.shorts[block] = ticks;
            return before;
        }

        private int pass(int ticks) {
            if (out(ticks, 1, 99)) {
                return -2;
            }
            int sent = 0;
            for (int i = 0; i < ticks; i++) {
                sent += w.tick() ? 1 : 0;
            }
            return sent;
        }

        int of(int address, int what) {
            Train t = w.with(address);
            if (t == null) {
                return -1;
            }
            if (out(what, 0, 11)) {
                return -2;
            }
            int[] all = {t.mass, t.curve, t.place(), (int) Math.floorMod(t.tenthsGone, 10L), t.speed + 1000,
                t.goal() + 1000, t.step, t.backwards ? 0 : 1, t.lights, t.block(), t.heard,
                (int) Math.floorDiv(t.tenthsGone, 8000L) + 1000};
            return all[what];
        }

        int address(int rank) {
            return out(rank, 0, w.trains.size() - 1) ? -1 : w.trains.get(rank).address;
        }

        int waiting(int rank, int what) {
            if (out(rank, 0, w.orders.size() - 1)) {
                return -1;
            }
            return out(what, 0, 2) ? -2 : w.ranked().get(rank)[what];
        }

        private int inBlock(int block) {
            return (int) w.trains.stream().filter(t -> t.block() == block).count();
        }

        int block(int block, int what) {
            if (out(block, 0, 7)) {
                return -1;
            }
            return out(what, 0, 1) ? -2 : what == 0 ? w.shorts[block] : inBlock(block);
        }

        int count(int what) {
            int shorted = 0;
            int crowded = 0;
            for (int b = 0; b < 8; b++) {
                shorted += w.shorts[b] > 0 ? 1 : 0;
                crowded += inBlock(b) >= 2 ? 1 : 0;
            }
            int speeds = w.trains.stream().mapToInt(t -> t.speed).sum();
            int[] all = {w.ticks, w.trains.size(), w.orders.size(), w.noise, w.frames, w.broken, w.spoiled, shorted,
                crowded, speeds + 10000, pad.length(), past.size()};
            return out(what, 0, 11) ? -2 : all[what];
        }

        int reaches(int address, int block) {
            World then = w.copy();
            Train t = then.with(address);
            if (t == null || out(block, 0, 7)) {
                return -1;
            }
            int gone = 0;
            while (gone <= 1000 && t.block() != block) {
                then.tick();
                gone++;
            }
            return gone > 1000 ? -6 : gone;
        }

        int settles(int address) {
            if (w.with(address) == null) {
                return -1;
            }
            Train t = w.with(address).copy();
            int gone = 0;
            while (t.speed != t.goal()) {
                t.towardsGoal();
                gone++;
            }
            return gone;
        }

        int meets(int one, int other) {
            World then = w.copy();
            Train a = then.with(one);
            Train b = then.with(other);
            if (a == null || b == null) {
                return -1;
            }
            if (one == other) {
                return -2;
            }
            int gone = 0;
            while (gone <= 1000 && a.block() != b.block()) {
                then.tick();
                gone++;
            }
            return gone > 1000 ? -6 : gone;
        }

        int stepFor(int address, int tenths) {
            Train t = w.with(address);
            if (t == null) {
                return -1;
            }
            if (out(tenths, 0, 280)) {
                return -2;
            }
            int least = 28;
            for (int s = 28; s >= 0; s--) {
                least = t.forwards(s) >= tenths ? s : least;
            }
            return least;
        }

        int put(long characters) {
            StringBuilder added = new StringBuilder();
            boolean ended = false;
            for (int i = 0; i < 8; i++) {
                int code = (int) (characters & 255);
                characters >>>= 8;
                ended |= code == 0;
                if (ended ? code != 0 : out(code, 33, 126)) {
                    return -2;
                }
                if (!ended) {
                    added.insert(0, (char) code);
                }
            }
            if (added.length() == 0) {
                return -2;
            }
            if (pad.length() + added.length() > 80) {
                return -4;
            }
            pad += added;
            return pad.length();
        }

        int wipe() {
            int before = pad.length();
            pad = "";
            return before;
        }

        /** The first character with which no right text begins any more. */
        int fault() {
            for (int end = 1; end <= pad.length(); end++) {
                Matcher begins = TEXT.matcher(pad.substring(0, end));
                if (!begins.matches() && !begins.hitEnd()) {
                    return end - 1;
                }
            }
            return TEXT.matcher(pad).matches() ? -6 : pad.length();
        }

        private int carryOut() {
            if (fault() != -6) {
                return -3;
            }
            int carried = 0;
            for (String order : pad.split(";")) {
                String[] parts = order.substring(1).split("[:!,*]");
                int[] n = new int[3];
                for (int i = 0; i < parts.length; i++) {
                    n[i] = Integer.parseInt(parts[i]);
                }
                char kind = order.charAt(0);
                int answer = kind == 'o' ? order(n[0], n[1], n[2]) : kind == 'f' ? frame(n[0], n[1], n[2])
                        : kind == 's' ? shorts(n[0], n[1]) : pass(n[0]);
                if (answer < 0) {
                    break;
                }
                carried++;
            }
            pad = "";
            return carried;
        }

        int undo() {
            if (past.isEmpty()) {
                return -5;
            }
            w = past.remove(past.size() - 1);
            return past.size();
        }

        int save(int slot) {
            if (out(slot, 0, 1)) {
                return -2;
            }
            slots[slot] = w.copy();
            return w.trains.size();
        }

        private int restore(int slot) {
            if (out(slot, 0, 1)) {
                return -2;
            }
            if (slots[slot] == null) {
                return -5;
            }
            w = slots[slot].copy();
            return w.trains.size();
        }
    }
}
