/**
 * Toy trains on a ring of blocks, driven by frames that a station sends.
 * The numbered promises of DOC.md say what every public method answers.
 */
public final class LocoFrames {
    public static final int NO_SUCH = -1, BAD_VALUE = -2, BAD_TEXT = -3, TOO_MANY = -4, NOT_POSSIBLE = -5, NONE = -6;
    public static final int EVEN = 0, SLOW = 1, FAST = 2;

    private static final int MOST_LOCOS = 8, MOST_LOCO_ADDRESS = 99, MOST_MASS = 20, MOST_STEP = 28, MOST_SPEED = 280;
    private static final int BLOCKS = 8, BLOCK_LENGTH = 100, RING = BLOCKS * BLOCK_LENGTH, RING_TENTHS = RING * 10;
    private static final int MOST_ORDERS = 20, MOST_URGENCY = 3, MOST_BYTE = 255, MOST_NOISE = 9;
    private static final int MOST_TICKS_AT_ONCE = 99, MOST_TICKS = 99999, FORESEEN_TICKS = 1000;
    private static final int FORWARDS = 128, STOP_AT_ONCE = 31, LIGHTS = 64, MOST_LIGHTS = 3;
    private static final int STRENGTH = 60, SPEED_SHIFT = 1000, SPEED_SUM_SHIFT = 10000;
    private static final int PAD_ROOM = 80, CHARACTERS_AT_ONCE = 8, HISTORY = 6, HISTORY_ROOM = HISTORY + 1, SLOTS = 2;

    private final Layout now = new Layout();
    private final Layout foreseen = new Layout();
    private final History history = new History();
    private final Layout[] slots = new Layout[SLOTS];
    private final boolean[] saved = new boolean[SLOTS];
    private final Pad pad = new Pad();

    public LocoFrames() {
        for (int slot = 0; slot < SLOTS; slot++) {
            slots[slot] = new Layout();
        }
    }

    // ---- changes

    public int loco(int address, int mass, int curve, int place) {
        history.draft(now);
        return history.kept(now.addLoco(address, mass, curve, place));
    }

    public int lift(int address) {
        history.draft(now);
        return history.kept(now.removeLoco(address));
    }

    public int noise(int ticks) {
        history.draft(now);
        return history.kept(now.changeNoise(ticks));
    }

    public int order(int address, int datum, int urgency) {
        history.draft(now);
        return history.kept(now.station.take(address, datum, urgency));
    }

    public int frame(int address, int datum, int check) {
        history.draft(now);
        return history.kept(now.takeFrame(address, datum, check));
    }

    public int shorts(int block, int ticks) {
        history.draft(now);
        return history.kept(now.changeShort(block, ticks));
    }

    public int pass(int ticks) {
        history.draft(now);
        return history.kept(now.takeTicks(ticks));
    }

    // ---- what there is

    public int of(int address, int what) {
        Loco loco = now.locoWith(address);
        return loco == null ? NO_SUCH : loco.told(what);
    }

    public int address(int rank) {
        Loco loco = now.locoAt(rank);
        return loco == null ? NO_SUCH : loco.address;
    }

    public int waiting(int rank, int what) {
        return now.station.told(rank, what);
    }

    public int block(int block, int what) {
        if (!isBlock(block)) {
            return NO_SUCH;
        }
        switch (what) {
            case 0: return now.shortTicks[block];
            case 1: return now.locosIn(block);
            default: return BAD_VALUE;
        }
    }

    public int count(int what) {
        switch (what) {
            case 0: return now.ticks;
            case 1: return now.locoCount;
            case 2: return now.station.held;
            case 3: return now.noiseTicks;
            case 4: return now.frames;
            case 5: return now.broken;
            case 6: return now.spoiled;
            case 7: return now.blocksWithShort();
            case 8: return now.crowdedBlocks();
            case 9: return now.speedSum() + SPEED_SUM_SHIFT;
            case 10: return pad.length;
            case 11: return history.held;
            default: return BAD_VALUE;
        }
    }

    // ---- what if; nothing changes

    public int reaches(int address, int block) {
        foreseen.copyFrom(now);
        Loco loco = foreseen.locoWith(address);
        if (loco == null || !isBlock(block)) {
            return NO_SUCH;
        }
        for (int passed = 0; passed <= FORESEEN_TICKS; passed++) {
            if (loco.blockNumber() == block) {
                return passed;
            }
            foreseen.tick();
        }
        return NONE;
    }

    public int settles(int address) {
        Loco loco = now.locoWith(address);
        return loco == null ? NO_SUCH : loco.ticksToGoal();
    }

    public int meets(int one, int other) {
        foreseen.copyFrom(now);
        Loco first = foreseen.locoWith(one);
        Loco second = foreseen.locoWith(other);
        if (first == null || second == null) {
            return NO_SUCH;
        }
        if (one == other) {
            return BAD_VALUE;
        }
        for (int passed = 0; passed <= FORESEEN_TICKS; passed++) {
            if (first.blockNumber() == second.blockNumber()) {
                return passed;
            }
            foreseen.tick();
        }
        return NONE;
    }

    public int stepFor(int address, int tenths) {
        Loco loco = now.locoWith(address);
        if (loco == null) {
            return NO_SUCH;
        }
        if (!within(tenths, 0, MOST_SPEED)) {
            return BAD_VALUE;
        }
        int step = 0;
        while (step < MOST_STEP && curveSpeed(loco.curve, step) < tenths) {
            step++;
        }
        return step;
    }

    // ---- texts

    public int put(long characters) {
        return pad.append(characters);
    }

    public int wipe() {
        return pad.clear();
    }

    public int fault() {
        return pad.firstFault();
    }

    public int carryOut() {
        if (pad.firstFault() != NONE) {
            return BAD_TEXT;
        }
        history.draft(now);
        pad.rewind();
        int carried = 0;
        boolean more = true;
        while (more && carried < PAD_ROOM && pad.readsOrder() && carriesOne()) {
            carried++;
            more = pad.reads(';');
        }
        pad.clear();
        return history.kept(carried);
    }

    // ---- undo, saving

    public int undo() {
        return history.takeBack(now);
    }

    public int save(int slot) {
        if (!within(slot, 0, SLOTS - 1)) {
            return BAD_VALUE;
        }
        slots[slot].copyFrom(now);
        saved[slot] = true;
        return now.locoCount;
    }

    public int restore(int slot) {
        if (!within(slot, 0, SLOTS - 1)) {
            return BAD_VALUE;
        }
        if (!saved[slot]) {
            return NOT_POSSIBLE;
        }
        history.draft(now);
        now.copyFrom(slots[slot]);
        return history.kept(now.locoCount);
    }

    // ---- helpers

    private boolean carriesOne() {
        int answer = NO_SUCH;
        switch (pad.kind) {
            case 'o':
                answer = now.station.take(pad.numbers[0], pad.numbers[1], pad.numbers[2]);
                break;
            case 'f':
                answer = now.takeFrame(pad.numbers[0], pad.numbers[1], pad.numbers[2]);
                break;
            case 's':
                answer = now.changeShort(pad.numbers[0], pad.numbers[1]);
                break;
            case 't':
                answer = now.takeTicks(pad.numbers[0]);
                break;
            default:
                break;
        }
        return answer >= 0;
    }

    private static boolean within(int number, int least, int most) {
        return number >= least && number <= most;
    }

    private static boolean isBlock(int block) {
        return within(block, 0, BLOCKS - 1);
    }

    /** The speed forwards that a step asks for. */
    private static int curveSpeed(int curve, int step) {
        int bent = step * step * 10 / MOST_STEP;
        switch (curve) {
            case SLOW: return bent;
            case FAST: return 20 * step - bent;
            default: return 10 * step;
        }
    }

    /** One loco: what it is, where it is, how it goes, and what it heard. */
    private static final class Loco {
        int address, mass, curve;
        int place, tenths, speed, rounds;
        int step, way, lights, heard;

        void begin(int itsAddress, int itsMass, int itsCurve, int itsPlace) {
            address = itsAddress;
            mass = itsMass;
            curve = itsCurve;
            place = itsPlace;
            tenths = 0;
            speed = 0;
            rounds = 0;
            step = 0;
            way = 1;
            lights = 0;
            heard = 0;
        }

        void copyFrom(Loco other) {
            address = other.address;
            mass = other.mass;
            curve = other.curve;
            place = other.place;
            tenths = other.tenths;
            speed = other.speed;
            rounds = other.rounds;
            step = other.step;
            way = other.way;
            lights = other.lights;
            heard = other.heard;
        }

        int blockNumber() {
            return place / BLOCK_LENGTH;
        }

        int goal() {
            int forwards = curveSpeed(curve, step);
            return way == 1 ? forwards : -forwards;
        }

        int mostGain() {
            return mass > 0 ? STRENGTH / mass : 0;
        }

        int ticksToGoal() {
            int gain = mostGain();
            int missing = Math.abs(goal() - speed);
            return gain > 0 ? (missing + gain - 1) / gain : 0;
        }

        void changeSpeed() {
            int gain = mostGain();
            speed += Math.max(-gain, Math.min(gain, goal() - speed));
        }

        /** Goes by the speed; no speed is enough to pass the ring's seam twice. */
        void roll() {
            int reached = place * 10 + tenths + speed;
            rounds += Math.floorDiv(reached, RING_TENTHS);
            int onRing = Math.floorMod(reached, RING_TENTHS);
            place = onRing / 10;
            tenths = onRing % 10;
        }

        void hear(int datum) {
            heard++;
            int asStep = datum % FORWARDS;
            if (asStep <= MOST_STEP) {
                step = asStep;
                way = datum / FORWARDS;
            } else if (datum == STOP_AT_ONCE) {
                step = 0;
                speed = 0;
            } else if (datum >= LIGHTS && datum <= LIGHTS + MOST_LIGHTS) {
                lights = datum - LIGHTS;
            }
        }

        int told(int what) {
            switch (what) {
                case 0: return mass;
                case 1: return curve;
                case 2: return place;
                case 3: return tenths;
                case 4: return speed + SPEED_SHIFT;
                case 5: return goal() + SPEED_SHIFT;
                case 6: return step;
                case 7: return way;
                case 8: return lights;
                case 9: return blockNumber();
                case 10: return heard;
                case 11: return rounds + SPEED_SHIFT;
                default: return BAD_VALUE;
            }
        }
    }

    /** The orders that wait, in rows that stand in the order in which they are sent. */
    private static final class Station {
        final int[] addresses = new int[MOST_ORDERS];
        final int[] data = new int[MOST_ORDERS];
        final int[] urgencies = new int[MOST_ORDERS];
        int held;

        void copyFrom(Station other) {
            System.arraycopy(other.addresses, 0, addresses, 0, MOST_ORDERS);
            System.arraycopy(other.data, 0, data, 0, MOST_ORDERS);
            System.arraycopy(other.urgencies, 0, urgencies, 0, MOST_ORDERS);
            held = other.held;
        }

        int take(int address, int datum, int urgency) {
            if (!within(address, 0, MOST_LOCO_ADDRESS) || !within(datum, 0, MOST_BYTE)
                    || !within(urgency, 0, MOST_URGENCY)) {
                return BAD_VALUE;
            }
            if (held >= MOST_ORDERS) {
                return TOO_MANY;
            }
            int rank = held;
            while (rank > 0 && urgencies[rank - 1] < urgency) {
                setRow(rank, addresses[rank - 1], data[rank - 1], urgencies[rank - 1]);
                rank--;
            }
            setRow(rank, address, datum, urgency);
            held++;
            return held;
        }

        private void setRow(int rank, int address, int datum, int urgency) {
            addresses[rank] = address;
            data[rank] = datum;
            urgencies[rank] = urgency;
        }

        void dropFirst() {
            for (int rank = 1; rank < held; rank++) {
                setRow(rank - 1, addresses[rank], data[rank], urgencies[rank]);
            }
            held = Math.max(0, held - 1);
        }

        int told(int rank, int what) {
            if (!within(rank, 0, held - 1)) {
                return NO_SUCH;
            }
            switch (what) {
                case 0: return addresses[rank];
                case 1: return data[rank];
                case 2: return urgencies[rank];
                default: return BAD_VALUE;
            }
        }
    }

    /** All that undo and saving keep: the ring with its locos, the station, and the counts. */
    private static final class Layout {
        final Loco[] locos = new Loco[MOST_LOCOS];
        final Station station = new Station();
        final int[] shortTicks = new int[BLOCKS];
        int locoCount;
        int ticks;
        int noiseTicks, spoiledAt;
        int frames, broken, spoiled;

        Layout() {
            for (int rank = 0; rank < MOST_LOCOS; rank++) {
                locos[rank] = new Loco();
            }
        }

        void copyFrom(Layout other) {
            for (int rank = 0; rank < other.locoCount; rank++) {
                locos[rank].copyFrom(other.locos[rank]);
            }
            station.copyFrom(other.station);
            System.arraycopy(other.shortTicks, 0, shortTicks, 0, BLOCKS);
            locoCount = other.locoCount;
            ticks = other.ticks;
            noiseTicks = other.noiseTicks;
            spoiledAt = other.spoiledAt;
            frames = other.frames;
            broken = other.broken;
            spoiled = other.spoiled;
        }

        Loco locoAt(int rank) {
            return within(rank, 0, locoCount - 1) ? locos[rank] : null;
        }

        Loco locoWith(int address) {
            return locoAt(rankOf(address));
        }

        /** The rank of the loco with this address, locoCount if there is none. */
        private int rankOf(int address) {
            int rank = 0;
            while (rank < locoCount && locos[rank].address != address) {
                rank++;
            }
            return rank;
        }

        int addLoco(int address, int mass, int curve, int place) {
            if (!within(address, 1, MOST_LOCO_ADDRESS) || !within(mass, 1, MOST_MASS)
                    || !within(curve, EVEN, FAST) || !within(place, 0, RING - 1)) {
                return BAD_VALUE;
            }
            if (rankOf(address) < locoCount) {
                return NOT_POSSIBLE;
            }
            if (locoCount >= MOST_LOCOS) {
                return TOO_MANY;
            }
            // The row stands in the order of the addresses; the object behind its end is used again.
            Loco added = locos[locoCount];
            int rank = locoCount;
            while (rank > 0 && locos[rank - 1].address > address) {
                locos[rank] = locos[rank - 1];
                rank--;
            }
            locos[rank] = added;
            added.begin(address, mass, curve, place);
            locoCount++;
            return locoCount;
        }

        int removeLoco(int address) {
            int rank = rankOf(address);
            if (rank >= locoCount) {
                return NO_SUCH;
            }
            Loco gone = locos[rank];
            for (int next = rank + 1; next < locoCount; next++) {
                locos[next - 1] = locos[next];
            }
            locoCount--;
            locos[locoCount] = gone;
            return locoCount;
        }

        int changeNoise(int number) {
            if (!within(number, 0, MOST_NOISE)) {
                return BAD_VALUE;
            }
            int before = noiseTicks;
            noiseTicks = number;
            return before;
        }

        int changeShort(int block, int number) {
            if (!isBlock(block)) {
                return NO_SUCH;
            }
            if (!within(number, 0, MOST_TICKS_AT_ONCE)) {
                return BAD_VALUE;
            }
            int before = shortTicks[block];
            shortTicks[block] = number;
            return before;
        }

        int takeFrame(int address, int datum, int check) {
            if (!within(address, 0, MOST_BYTE) || !within(datum, 0, MOST_BYTE) || !within(check, 0, MOST_BYTE)) {
                return BAD_VALUE;
            }
            frames++;
            if (check != (address ^ datum)) {
                broken++;
                return 0;
            }
            int hearers = 0;
            for (int rank = 0; rank < locoCount; rank++) {
                Loco loco = locos[rank];
                if ((address == 0 || address == loco.address) && !isShorted(loco.blockNumber())) {
                    loco.hear(datum);
                    hearers++;
                }
            }
            return hearers;
        }

        int takeTicks(int number) {
            if (!within(number, 1, MOST_TICKS_AT_ONCE)) {
                return BAD_VALUE;
            }
            if (ticks + number > MOST_TICKS) {
                return NOT_POSSIBLE;
            }
            int sent = 0;
            for (int passed = 0; passed < number; passed++) {
                sent += tick();
            }
            return sent;
        }

        /** Returns how many frames were sent in it, 0 or 1. */
        int tick() {
            int sent = sendFirst();
            for (int rank = 0; rank < locoCount; rank++) {
                Loco loco = locos[rank];
                if (isShorted(loco.blockNumber())) {
                    loco.speed = 0;
                } else {
                    loco.changeSpeed();
                }
                loco.roll();
            }
            for (int block = 0; block < BLOCKS; block++) {
                shortTicks[block] = Math.max(0, shortTicks[block] - 1);
            }
            ticks++;
            return sent;
        }

        private int sendFirst() {
            if (station.held < 1) {
                return 0;
            }
            int address = station.addresses[0];
            int datum = station.data[0];
            int check = address ^ datum;
            station.dropFirst();
            if (noiseTicks > 0 && ticks - spoiledAt >= noiseTicks) {
                check = (check + 1) % (MOST_BYTE + 1);
                spoiledAt = ticks;
                spoiled++;
            }
            takeFrame(address, datum, check);
            return 1;
        }

        private boolean isShorted(int block) {
            return block >= 0 && block < BLOCKS && shortTicks[block] > 0;
        }

        int locosIn(int block) {
            int found = 0;
            for (int rank = 0; rank < locoCount; rank++) {
                if (locos[rank].blockNumber() == block) {
                    found++;
                }
            }
            return found;
        }

        int blocksWithShort() {
            int found = 0;
            for (int block = 0; block < BLOCKS; block++) {
                if (shortTicks[block] > 0) {
                    found++;
                }
            }
            return found;
        }

        int crowdedBlocks() {
            int found = 0;
            for (int block = 0; block < BLOCKS; block++) {
                if (locosIn(block) > 1) {
                    found++;
                }
            }
            return found;
        }

        int speedSum() {
            int sum = 0;
            for (int rank = 0; rank < locoCount; rank++) {
                sum += locos[rank].speed;
            }
            return sum;
        }
    }

    /**
     * The states that undo goes back to, in a ring with one more room than it keeps:
     * a change is drafted before it is known whether it returns an error.
     */
    private static final class History {
        final Layout[] states = new Layout[HISTORY_ROOM];
        int first, held;

        History() {
            for (int room = 0; room < HISTORY_ROOM; room++) {
                states[room] = new Layout();
            }
        }

        void draft(Layout before) {
            states[(first + held) % HISTORY_ROOM].copyFrom(before);
        }

        /** Keeps the draft if the answer of the change is no error; returns that answer. */
        int kept(int answer) {
            if (answer < 0) {
                return answer;
            }
            if (held < HISTORY) {
                held++;
            } else {
                first = (first + 1) % HISTORY_ROOM;
            }
            return answer;
        }

        int takeBack(Layout now) {
            if (held < 1) {
                return NOT_POSSIBLE;
            }
            held--;
            now.copyFrom(states[(first + held) % HISTORY_ROOM]);
            return held;
        }
    }

    /** The text, and the reading of it from left to right, order by order. */
    private static final class Pad {
        static final int MOST_NUMBERS = 3, MOST_BLOCK_DIGIT = 7, MOST_URGENCY_DIGIT = 3;

        final char[] text = new char[PAD_ROOM];
        int length;
        int at;
        int kind;
        final int[] numbers = new int[MOST_NUMBERS];
        int numbersRead;

        int append(long characters) {
            int added = countOf(characters);
            if (added < 1) {
                return BAD_VALUE;
            }
            if (length + added > PAD_ROOM) {
                return TOO_MANY;
            }
            for (int back = 0; back < added; back++) {
                text[length + added - 1 - back] = (char) codeAt(characters, back);
            }
            length += added;
            return length;
        }

        /** How many characters the number gives, 0 if it is not such a number. */
        private static int countOf(long characters) {
            int found = 0;
            while (found < CHARACTERS_AT_ONCE && codeAt(characters, found) != 0) {
                if (!within(codeAt(characters, found), 33, 126)) {
                    return 0;
                }
                found++;
            }
            for (int above = found; above < CHARACTERS_AT_ONCE; above++) {
                if (codeAt(characters, above) != 0) {
                    return 0;
                }
            }
            return found;
        }

        private static int codeAt(long characters, int back) {
            return (int) (characters >>> (8 * back)) & 255;
        }

        int clear() {
            int before = length;
            length = 0;
            return before;
        }

        void rewind() {
            at = 0;
        }

        /** A part that cannot be read leaves the reading where the fault is. */
        int firstFault() {
            rewind();
            for (int order = 0; order < PAD_ROOM; order++) {
                if (!readsOrder()) {
                    return at;
                }
                if (at >= length) {
                    return NONE;
                }
                if (!reads(';')) {
                    return at;
                }
            }
            return at;
        }

        boolean readsOrder() {
            kind = here();
            numbersRead = 0;
            switch (kind) {
                case 'o':
                    at++;
                    return readsNumber() && reads(':') && readsNumber() && reads('!') && readsDigit(MOST_URGENCY_DIGIT);
                case 'f':
                    at++;
                    return readsNumber() && reads(',') && readsNumber() && reads(',') && readsNumber();
                case 's':
                    at++;
                    return readsDigit(MOST_BLOCK_DIGIT) && reads('*') && readsNumber();
                case 't':
                    at++;
                    return readsNumber();
                default:
                    return false;
            }
        }

        /** The character to be read next, 0 at the end of the text. */
        private int here() {
            return at < length && at < PAD_ROOM ? text[at] : 0;
        }

        boolean reads(int character) {
            if (here() != character) {
                return false;
            }
            at++;
            return true;
        }

        private boolean readsDigit(int most) {
            if (!within(here(), '0', '0' + most)) {
                return false;
            }
            hold(here() - '0');
            at++;
            return true;
        }

        /** A digit behind a leading 0, or a fourth one, is left: what comes next cannot be a digit. */
        private boolean readsNumber() {
            if (!within(here(), '0', '9')) {
                return false;
            }
            int number = here() - '0';
            at++;
            for (int more = 0; more < 2 && number > 0 && within(here(), '0', '9'); more++) {
                number = number * 10 + here() - '0';
                at++;
            }
            hold(number);
            return true;
        }

        private void hold(int number) {
            if (numbersRead < MOST_NUMBERS) {
                numbers[numbersRead] = number;
                numbersRead++;
            }
        }
    }
}
