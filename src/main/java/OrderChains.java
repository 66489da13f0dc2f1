import java.util.Arrays;

/**
 * A copy engine: three channels take turns at orders that lie in the cells they work on.
 * The promises that this class keeps are numbered in the project's document.
 */
public final class OrderChains {
    public static final int NONE = -9;

    private static final int CELLS = 96;
    private static final int VALUES = 100;
    private static final int OWNERS = 4;

    private static final int ORDER_CELLS = 6;
    private static final int LAST_ORDER = CELLS - ORDER_CELLS;

    private static final int STOP = 0;
    private static final int COPY_UP = 1;
    private static final int COPY_DOWN = 2;
    private static final int FILL = 3;
    private static final int ADD = 4;
    private static final int EXCHANGE = 5;
    private static final int CHOOSE = 6;

    private static final int CHANNELS = 3;
    private static final int IDLE = 0;
    private static final int BUSY = 1;
    private static final int DONE = 2;
    private static final int FAULTY = 3;

    private static final int NO_ORDER_FITS = 1;
    private static final int NO_SUCH_KIND = 2;
    private static final int NO_SUCH_CELL = 3;
    private static final int FOREIGN_CELL = 4;

    private static final int TEXT_LIMIT = 140;
    private static final int CODES = 256;
    private static final int MOST_TICKS = 99;
    private static final int HORIZON = 500;
    private static final int REMEMBERED = 14;
    private static final int SLOTS = 2;

    private static final int MOST_COMMANDS = 3;
    private static final int GROUP = 100000;

    private static final int MOST_ROUNDS = 50;
    private static final int ROUND_TICKS = 8;

    private final int[] text = new int[TEXT_LIMIT];
    private int textLength = 0;
    private final TextReader reader = new TextReader();

    private final Engine live = new Engine();
    /** Whatever must leave the state as it is works on this one. */
    private final Engine trial = new Engine();
    private final History history = new History();
    private final Engine[] slots = new Engine[SLOTS];
    private final boolean[] slotFilled = new boolean[SLOTS];
    private final ChainWalk walk = new ChainWalk();

    public OrderChains() {
        for (int slot = 0; slot < SLOTS; slot++) {
            slots[slot] = new Engine();
        }
    }

    // ---- text

    public int append(int c) throws IllegalArgumentException, IllegalStateException {
        if (c < 0 || c >= CODES) {
            throw new IllegalArgumentException("no such character code");
        }
        if (textLength >= TEXT_LIMIT) {
            throw new IllegalStateException("the text is full");
        }
        text[textLength] = c;
        textLength++;
        return textLength;
    }

    public int clearText() {
        int previous = textLength;
        textLength = 0;
        return previous;
    }

    public int errorPosition() {
        return reader.readInto(trial, text, textLength);
    }

    public int load() throws IllegalStateException {
        if (reader.readInto(trial, text, textLength) != NONE) {
            throw new IllegalStateException("the text is not an engine");
        }
        live.copyFrom(trial);
        history.forget();
        for (int slot = 0; slot < SLOTS; slot++) {
            slotFilled[slot] = false;
        }
        return live.channelsThatAre(BUSY);
    }

    // ---- what there is

    public int about(int what) throws IllegalArgumentException {
        switch (what) {
            case 0:
                return live.ticks;
            case 1:
                return live.channelsThatAre(BUSY);
            case 2:
                return live.channelsThatAre(DONE);
            case 3:
                return live.channelsThatAre(FAULTY);
            case 4:
                return live.nextTurn();
            case 5:
                return live.sumOfValues();
            case 6:
                return live.edits;
            case 7:
                return live.writes;
            case 8:
                return live.markedCells();
            case 9:
                return live.ownedCells();
            default:
                throw new IllegalArgumentException("no such number");
        }
    }

    public int cell(int c, int what) throws IndexOutOfBoundsException, IllegalArgumentException {
        if (!isCell(c)) {
            throw new IndexOutOfBoundsException("no such cell");
        }
        switch (what) {
            case 0:
                return live.values[c];
            case 1:
                return live.owners[c];
            case 2:
                return live.marks[c];
            case 3:
                return live.lastWriters[c];
            default:
                throw new IllegalArgumentException("no such number of a cell");
        }
    }

    public int channel(int h, int what) throws IndexOutOfBoundsException, IllegalArgumentException {
        if (!isChannel(h)) {
            throw new IndexOutOfBoundsException("no such channel");
        }
        Channel told = live.channels[h];
        switch (what) {
            case 0:
                return told.condition;
            case 1:
                return told.head;
            case 2:
                return told.cause;
            case 3:
                return told.place;
            case 4:
                return told.hasOrder() ? told.kind : NONE;
            case 5:
                return told.units;
            case 6:
                return told.ordersRead;
            case 7:
                return told.cellsWritten;
            default:
                throw new IllegalArgumentException("no such number of a channel");
        }
    }

    public int chain(int a, int what) throws IndexOutOfBoundsException, IllegalArgumentException {
        if (!isCell(a)) {
            throw new IndexOutOfBoundsException("no such cell");
        }
        if (what != 0 && what != 1) {
            throw new IllegalArgumentException("no such number of a chain");
        }
        walk.follow(live.values, a);
        return what == 0 ? walk.orders : walk.ending;
    }

    // ---- actions

    public int poke(int c, int v) throws IndexOutOfBoundsException, IllegalArgumentException {
        if (!isCell(c)) {
            throw new IndexOutOfBoundsException("no such cell");
        }
        if (!isValue(v)) {
            throw new IllegalArgumentException("no such value");
        }
        history.remember(live);
        int previous = live.values[c];
        live.values[c] = v;
        return previous;
    }

    public int order(int a, int kind, int from, int to, int count)
            throws IndexOutOfBoundsException, IllegalArgumentException {
        if (!isCell(a)) {
            throw new IndexOutOfBoundsException("no such cell");
        }
        if (a > LAST_ORDER) {
            throw new IllegalArgumentException("no order fits there");
        }
        if (!isValue(kind) || !isValue(from) || !isValue(to) || !isValue(count)) {
            throw new IllegalArgumentException("no such value");
        }
        history.remember(live);
        int previous = live.values[a];
        live.values[a] = kind;
        live.values[a + 1] = from;
        live.values[a + 2] = to;
        live.values[a + 3] = count;
        live.values[a + 4] = 1;
        live.values[a + 5] = a + ORDER_CELLS;
        return previous;
    }

    public int own(int c, int n, int owner) throws IndexOutOfBoundsException, IllegalArgumentException {
        if (!isCell(c)) {
            throw new IndexOutOfBoundsException("no such cell");
        }
        if (n < 1 || n > CELLS || owner < 0 || owner >= OWNERS) {
            throw new IllegalArgumentException("no such number of cells, or no such owner");
        }
        history.remember(live);
        return live.giveCells(c, n, owner);
    }

    public int start(int h, int a) throws IndexOutOfBoundsException {
        if (!isChannel(h) || !isCell(a)) {
            throw new IndexOutOfBoundsException("no such channel or cell");
        }
        history.remember(live);
        int previous = live.channels[h].condition;
        live.channels[h].beginAt(a);
        return previous;
    }

    public int stop(int h) throws IndexOutOfBoundsException, IllegalStateException {
        if (!isChannel(h)) {
            throw new IndexOutOfBoundsException("no such channel");
        }
        if (live.channels[h].condition != BUSY) {
            throw new IllegalStateException("the channel is not busy");
        }
        history.remember(live);
        int left = live.channels[h].unitsLeft();
        live.channels[h].become(IDLE);
        return left;
    }

    public int run(int n) throws IllegalArgumentException, IllegalStateException {
        if (n < 1 || n > MOST_TICKS) {
            throw new IllegalArgumentException("no such number of ticks");
        }
        if (live.nextTurn() == NONE) {
            throw new IllegalStateException("no channel is busy");
        }
        history.remember(live);
        return live.letTicksGoBy(n);
    }

    public int undo() throws IllegalStateException {
        if (history.size == 0) {
            throw new IllegalStateException("no state is remembered");
        }
        history.takeBack(live);
        return history.size;
    }

    // ---- what would be

    public int ends(int h) throws IndexOutOfBoundsException {
        if (!isChannel(h)) {
            throw new IndexOutOfBoundsException("no such channel");
        }
        trial.copyFrom(live);
        for (int behind = 0; behind <= HORIZON; behind++) {
            if (trial.channels[h].condition != BUSY) {
                return behind;
            }
            trial.tick();
        }
        return NONE;
    }

    public int endOf(int h) throws IndexOutOfBoundsException {
        if (!isChannel(h)) {
            throw new IndexOutOfBoundsException("no such channel");
        }
        lookAhead(HORIZON);
        Channel then = trial.channels[h];
        if (then.condition == DONE) {
            return 0;
        }
        return then.cause;
    }

    public int later(int c, int n) throws IndexOutOfBoundsException, IllegalArgumentException {
        if (!isCell(c)) {
            throw new IndexOutOfBoundsException("no such cell");
        }
        if (!isHorizon(n)) {
            throw new IllegalArgumentException("no such number of ticks");
        }
        lookAhead(n);
        return trial.values[c];
    }

    public int contested(int n) throws IllegalArgumentException {
        if (!isHorizon(n)) {
            throw new IllegalArgumentException("no such number of ticks");
        }
        lookAhead(n);
        return trial.cellsOfSeveralWriters();
    }

    public int firstEdit() {
        lookAhead(HORIZON);
        return trial.earliestEdit;
    }

    public int alone(int h) throws IndexOutOfBoundsException {
        if (!isChannel(h)) {
            throw new IndexOutOfBoundsException("no such channel");
        }
        trial.copyFrom(live);
        for (int other = 0; other < CHANNELS; other++) {
            if (other != h) {
                trial.channels[other].become(IDLE);
            }
        }
        trial.letTicksGoBy(HORIZON);
        return trial.channels[h].cellsWritten - live.channels[h].cellsWritten;
    }

    // ---- scripts, simulations

    public int runScript(int n, long script) throws IllegalArgumentException {
        if (n < 1 || n > MOST_COMMANDS) {
            throw new IllegalArgumentException("no such number of commands");
        }
        if (script < 0 || withoutLastGroups(script, n) != 0) {
            throw new IllegalArgumentException("no such script");
        }
        trial.copyFrom(live);
        for (int index = 0; index < n; index++) {
            long upToHere = withoutLastGroups(script, n - 1 - index);
            if (!Script.succeeds(trial, (int) (upToHere % GROUP))) {
                return index;
            }
        }
        return NONE;
    }

    public int simulate(long seed, int m) throws IllegalArgumentException {
        if (m < 1 || m > MOST_ROUNDS) {
            throw new IllegalArgumentException("no such number of rounds");
        }
        trial.copyFrom(live);
        long x = seed;
        for (int round = 0; round < m; round++) {
            x = x * 6364136223846793005L + 1442695040888963407L;
            int r = (int) (x >>> 33);
            trial.values[r % CELLS] = r / 128 % VALUES;
            if (r / 16384 % 4 == 0) {
                trial.channels[r / 65536 % CHANNELS].beginAt(r / 262144 % (LAST_ORDER + 1));
            }
            trial.letTicksGoBy(ROUND_TICKS);
        }
        return 10000 * trial.channelsThatAre(FAULTY) + trial.sumOfValues();
    }

    // ---- save slots

    public int save(int slot) throws IndexOutOfBoundsException {
        if (slot < 0 || slot >= SLOTS) {
            throw new IndexOutOfBoundsException("no such save slot");
        }
        slots[slot].copyFrom(live);
        slotFilled[slot] = true;
        return live.ticks;
    }

    public int restore(int slot) throws IndexOutOfBoundsException, IllegalStateException {
        if (slot < 0 || slot >= SLOTS) {
            throw new IndexOutOfBoundsException("no such save slot");
        }
        if (!slotFilled[slot]) {
            throw new IllegalStateException("nothing has been saved there");
        }
        live.copyFrom(slots[slot]);
        history.forget();
        return live.ticks;
    }

    private void lookAhead(int n) {
        trial.copyFrom(live);
        trial.letTicksGoBy(n);
    }

    private static boolean isCell(int c) {
        return c >= 0 && c < CELLS;
    }

    private static boolean isChannel(int h) {
        return h >= 0 && h < CHANNELS;
    }

    private static boolean isValue(int v) {
        return v >= 0 && v < VALUES;
    }

    private static boolean isHorizon(int n) {
        return n >= 0 && n <= HORIZON;
    }

    private static long withoutLastGroups(long script, int groups) {
        long rest = script;
        for (int dropped = 0; dropped < groups; dropped++) {
            rest /= GROUP;
        }
        return rest;
    }

    /** One channel, with the order that it perhaps has in hand. */
    private static final class Channel {
        int condition = IDLE;
        int head = 0;
        int cause = NONE;
        int ordersRead = 0;
        int cellsWritten = 0;

        /** NONE without an order in hand; the six values tell nothing then. */
        int place = NONE;
        int units = 0;
        int kind = 0;
        int from = 0;
        int to = 0;
        int count = 0;
        int stride = 0;
        int next = 0;

        void reset() {
            become(IDLE);
            head = 0;
            ordersRead = 0;
            cellsWritten = 0;
        }

        void copyFrom(Channel other) {
            condition = other.condition;
            head = other.head;
            cause = other.cause;
            ordersRead = other.ordersRead;
            cellsWritten = other.cellsWritten;
            place = other.place;
            units = other.units;
            kind = other.kind;
            from = other.from;
            to = other.to;
            count = other.count;
            stride = other.stride;
            next = other.next;
        }

        boolean hasOrder() {
            return place != NONE;
        }

        void beginAt(int a) {
            become(BUSY);
            head = a;
        }

        /** Whatever a channel becomes, it is without an order in hand then. */
        void become(int newCondition) {
            condition = newCondition;
            cause = NONE;
            place = NONE;
            units = 0;
        }

        void fail(int why) {
            become(FAULTY);
            cause = why;
        }

        void goOnAt(int newHead) {
            place = NONE;
            units = 0;
            head = newHead;
        }

        int unitsLeft() {
            return hasOrder() && kind != CHOOSE ? count - units : 0;
        }

        /** The values are kept, because what is written into the order's cells later must not change it. */
        void takeOrder(int[] values) {
            place = head;
            kind = values[head];
            from = values[head + 1];
            to = values[head + 2];
            count = values[head + 3];
            stride = values[head + 4];
            next = values[head + 5];
            ordersRead++;
        }
    }

    /** The whole state but the text and the save slots, and what goes on in it tick by tick. */
    private static final class Engine {
        final int[] values = new int[CELLS];
        final int[] owners = new int[CELLS];
        /** 1 for a cell that is marked as read, otherwise 0. */
        final int[] marks = new int[CELLS];
        final int[] lastWriters = new int[CELLS];
        final Channel[] channels = new Channel[CHANNELS];
        int lastTurn = CHANNELS - 1;
        int ticks = 0;
        int edits = 0;
        int writes = 0;

        /** What happened since this engine was made equal to another one; no part of the state. */
        final int[] writerBits = new int[CELLS];
        int earliestEdit = NONE;

        Engine() {
            for (int h = 0; h < CHANNELS; h++) {
                channels[h] = new Channel();
            }
            Arrays.fill(lastWriters, NONE);
        }

        void reset() {
            Arrays.fill(values, 0);
            Arrays.fill(owners, 0);
            Arrays.fill(marks, 0);
            Arrays.fill(lastWriters, NONE);
            for (int h = 0; h < CHANNELS; h++) {
                channels[h].reset();
            }
            lastTurn = CHANNELS - 1;
            ticks = 0;
            edits = 0;
            writes = 0;
        }

        void copyFrom(Engine other) {
            System.arraycopy(other.values, 0, values, 0, CELLS);
            System.arraycopy(other.owners, 0, owners, 0, CELLS);
            System.arraycopy(other.marks, 0, marks, 0, CELLS);
            System.arraycopy(other.lastWriters, 0, lastWriters, 0, CELLS);
            for (int h = 0; h < CHANNELS; h++) {
                channels[h].copyFrom(other.channels[h]);
            }
            lastTurn = other.lastTurn;
            ticks = other.ticks;
            edits = other.edits;
            writes = other.writes;
            watchFromHere();
        }

        void watchFromHere() {
            Arrays.fill(writerBits, 0);
            earliestEdit = NONE;
        }

        int channelsThatAre(int condition) {
            int found = 0;
            for (int h = 0; h < CHANNELS; h++) {
                if (channels[h].condition == condition) {
                    found++;
                }
            }
            return found;
        }

        int sumOfValues() {
            int sum = 0;
            for (int c = 0; c < CELLS; c++) {
                sum += values[c];
            }
            return sum;
        }

        int markedCells() {
            int found = 0;
            for (int c = 0; c < CELLS; c++) {
                found += marks[c];
            }
            return found;
        }

        int ownedCells() {
            int found = 0;
            for (int c = 0; c < CELLS; c++) {
                if (owners[c] != 0) {
                    found++;
                }
            }
            return found;
        }

        int cellsOfSeveralWriters() {
            int found = 0;
            for (int c = 0; c < CELLS; c++) {
                if (Integer.bitCount(writerBits[c]) > 1) {
                    found++;
                }
            }
            return found;
        }

        int giveCells(int first, int n, int owner) {
            int changed = 0;
            for (int c = first; c < CELLS && c < first + n; c++) {
                if (owners[c] != owner) {
                    owners[c] = owner;
                    changed++;
                }
            }
            return changed;
        }

        int nextTurn() {
            for (int step = 1; step <= CHANNELS; step++) {
                int h = (lastTurn + step) % CHANNELS;
                if (channels[h].condition == BUSY) {
                    return h;
                }
            }
            return NONE;
        }

        int letTicksGoBy(int most) {
            for (int gone = 0; gone < most; gone++) {
                if (!tick()) {
                    return gone;
                }
            }
            return most;
        }

        /** Tells whether there was a tick. */
        boolean tick() {
            int h = nextTurn();
            if (h == NONE) {
                return false;
            }
            lastTurn = h;
            ticks++;
            if (channels[h].hasOrder()) {
                doUnit(h);
            } else {
                readOrder(channels[h]);
            }
            return true;
        }

        private void readOrder(Channel reading) {
            if (reading.head > LAST_ORDER) {
                reading.fail(NO_ORDER_FITS);
                return;
            }
            for (int c = reading.head; c < reading.head + ORDER_CELLS; c++) {
                marks[c] = 1;
            }
            reading.takeOrder(values);
            if (reading.kind == STOP) {
                reading.become(DONE);
            } else if (reading.kind > CHOOSE) {
                reading.fail(NO_SUCH_KIND);
            } else if (reading.kind != CHOOSE && reading.count == 0) {
                reading.goOnAt(reading.next);
            }
        }

        private void doUnit(int h) {
            Channel working = channels[h];
            if (working.kind == CHOOSE) {
                choose(working);
                return;
            }
            boolean strides = working.kind == FILL || working.kind == ADD;
            int i = working.kind == COPY_DOWN ? working.count - 1 - working.units : working.units;
            int target = working.to + (strides ? i * working.stride : i);
            // A fill and an addition work on one cell alone: their "from" is a value.
            int source = strides ? target : working.from + i;
            if (source >= CELLS || target >= CELLS) {
                working.fail(NO_SUCH_CELL);
                return;
            }
            if (isForbidden(h, source, target)) {
                working.fail(FOREIGN_CELL);
                return;
            }
            writeUnit(h, source, target);
            working.units++;
            if (working.units >= working.count) {
                working.goOnAt(working.next);
            }
        }

        private void choose(Channel choosing) {
            if (choosing.from >= CELLS) {
                choosing.fail(NO_SUCH_CELL);
                return;
            }
            boolean equal = values[choosing.from] == choosing.to;
            choosing.goOnAt(equal ? choosing.next : choosing.place + ORDER_CELLS);
        }

        /** A cell that is exchanged with itself is not written, so its owner does not matter. */
        private boolean isForbidden(int h, int source, int target) {
            if (channels[h].kind != EXCHANGE) {
                return isForeign(h, target);
            }
            return source != target && (isForeign(h, source) || isForeign(h, target));
        }

        private boolean isForeign(int h, int c) {
            return owners[c] != 0 && owners[c] != h + 1;
        }

        private void writeUnit(int h, int source, int target) {
            int sourceValue = values[source];
            int targetValue = values[target];
            switch (channels[h].kind) {
                case FILL:
                    write(h, target, channels[h].from);
                    break;
                case ADD:
                    write(h, target, (targetValue + channels[h].from) % VALUES);
                    break;
                case COPY_UP:
                case COPY_DOWN:
                    write(h, target, sourceValue);
                    break;
                default:
                    if (source != target) {
                        write(h, source, targetValue);
                        write(h, target, sourceValue);
                    }
                    break;
            }
        }

        private void write(int h, int c, int v) {
            if (marks[c] == 1) {
                edits++;
                if (earliestEdit == NONE) {
                    earliestEdit = 100 * h + c;
                }
            }
            values[c] = v;
            lastWriters[c] = h;
            writerBits[c] |= 1 << h;
            writes++;
            channels[h].cellsWritten++;
        }
    }

    /** Follows a chain of orders as the cells are now, without a tick. */
    private static final class ChainWalk {
        private static final int AT_STOP = 0;
        private static final int AT_STRANGE_KIND = 1;
        private static final int AT_LAST_CELLS = 2;
        private static final int AT_ORDER_AGAIN = 3;

        final int[] seen = new int[CELLS];
        int orders = 0;
        int ending = AT_STOP;

        void follow(int[] values, int first) {
            Arrays.fill(seen, 0);
            orders = 0;
            int at = first;
            // No cell is passed twice, so the walk is over within one step a cell and one more.
            for (int step = 0; step <= CELLS; step++) {
                if (at > LAST_ORDER) {
                    ending = AT_LAST_CELLS;
                    return;
                }
                if (seen[at] == 1) {
                    ending = AT_ORDER_AGAIN;
                    return;
                }
                seen[at] = 1;
                orders++;
                if (values[at] == STOP || values[at] > CHOOSE) {
                    ending = values[at] == STOP ? AT_STOP : AT_STRANGE_KIND;
                    return;
                }
                at = values[at + 5];
            }
        }
    }

    /** The states ahead of the last actions, in a ring in which a new one takes the place of the oldest. */
    private static final class History {
        final Engine[] states = new Engine[REMEMBERED];
        int oldest = 0;
        int size = 0;

        History() {
            for (int k = 0; k < REMEMBERED; k++) {
                states[k] = new Engine();
            }
        }

        void remember(Engine engine) {
            states[(oldest + size) % REMEMBERED].copyFrom(engine);
            if (size < REMEMBERED) {
                size++;
            } else {
                oldest = (oldest + 1) % REMEMBERED;
            }
        }

        void takeBack(Engine engine) {
            if (size > 0) {
                size--;
                engine.copyFrom(states[(oldest + size) % REMEMBERED]);
            }
        }

        void forget() {
            size = 0;
        }
    }

    /** Reads a text character by character into an engine. */
    private static final class TextReader {
        private static final int ENGINE_SIGN = 0;
        private static final int PART = 1;
        private static final int CELL_TENS = 2;
        private static final int CELL_ONES = 3;
        private static final int VALUE_ONES = 4;
        private static final int OWNER = 5;
        private static final int CHANNEL = 6;
        private static final int HEAD_TENS = 7;
        private static final int HEAD_ONES = 8;

        int expected = ENGINE_SIGN;
        int tens = 0;
        int nextCell = 0;
        int owner = 0;
        int channelToStart = 0;

        /** Returns the error position, NONE if the engine is whole. */
        int readInto(Engine engine, int[] text, int length) {
            engine.reset();
            expected = ENGINE_SIGN;
            nextCell = 0;
            owner = 0;
            for (int at = 0; at < length && at < text.length; at++) {
                if (!takes(engine, text[at])) {
                    return at;
                }
            }
            return expected == PART ? NONE : length;
        }

        private boolean takes(Engine engine, int c) {
            if (expected == ENGINE_SIGN) {
                expected = PART;
                return c == 'E';
            }
            if (expected == PART) {
                return takesFirstSign(c);
            }
            return isDigit(c) && takesDigit(engine, c - '0');
        }

        private static boolean isDigit(int c) {
            return c >= '0' && c <= '9';
        }

        private boolean takesFirstSign(int c) {
            switch (c) {
                case '@':
                    expected = CELL_TENS;
                    return true;
                case 'o':
                    expected = OWNER;
                    return true;
                case 's':
                    expected = CHANNEL;
                    return true;
                default:
                    return takesFirstDigit(c);
            }
        }

        private boolean takesFirstDigit(int c) {
            if (!isDigit(c) || !isCell(nextCell)) {
                return false;
            }
            tens = c - '0';
            expected = VALUE_ONES;
            return true;
        }

        private boolean takesDigit(Engine engine, int digit) {
            switch (expected) {
                case CELL_TENS:
                    tens = digit;
                    expected = CELL_ONES;
                    return true;
                case CELL_ONES:
                    return takesCell(10 * tens + digit);
                case VALUE_ONES:
                    return takesValue(engine, 10 * tens + digit);
                case OWNER:
                    return takesOwner(digit);
                case CHANNEL:
                    return takesChannel(engine, digit);
                case HEAD_TENS:
                    tens = digit;
                    expected = HEAD_ONES;
                    return true;
                default:
                    return takesHead(engine, 10 * tens + digit);
            }
        }

        private boolean takesCell(int c) {
            if (!isCell(c)) {
                return false;
            }
            nextCell = c;
            expected = PART;
            return true;
        }

        private boolean takesValue(Engine engine, int v) {
            engine.values[nextCell] = v;
            engine.owners[nextCell] = owner;
            nextCell++;
            expected = PART;
            return true;
        }

        private boolean takesOwner(int newOwner) {
            if (newOwner >= OWNERS) {
                return false;
            }
            owner = newOwner;
            expected = PART;
            return true;
        }

        private boolean takesChannel(Engine engine, int h) {
            if (!isChannel(h) || engine.channels[h].condition != IDLE) {
                return false;
            }
            channelToStart = h;
            expected = HEAD_TENS;
            return true;
        }

        private boolean takesHead(Engine engine, int a) {
            if (!isCell(a)) {
                return false;
            }
            engine.channels[channelToStart].beginAt(a);
            expected = PART;
            return true;
        }
    }

    /** The commands of scripts, each a group of five digits. */
    private static final class Script {
        static boolean succeeds(Engine engine, int group) {
            int second = group / 1000 % 10;
            int third = group / 100 % 10;
            int fourth = group / 10 % 10;
            int fifth = group % 10;
            int front = 10 * second + third;
            int middle = 10 * third + fourth;
            int back = 10 * fourth + fifth;
            switch (group / 10000) {
                case 1:
                    return setsValue(engine, front, back);
                case 2:
                    return front == 0 && engine.letTicksGoBy(back) > 0;
                case 3:
                    return fifth == 0 && starts(engine, second, middle);
                case 4:
                    return third == 0 && back == 0 && stops(engine, second);
                case 5:
                    return gives(engine, front, fifth, fourth);
                case 6:
                    return isCell(front) && engine.values[front] == back;
                case 7:
                    return middle == 0 && isChannel(second) && engine.channels[second].condition == fifth;
                case 8:
                    return third == 0 && isChannel(second) && engine.channels[second].cellsWritten >= back;
                case 9:
                    return front == 0 && engine.edits <= back;
                default:
                    return false;
            }
        }

        private static boolean setsValue(Engine engine, int c, int v) {
            if (!isCell(c)) {
                return false;
            }
            engine.values[c] = v;
            return true;
        }

        private static boolean starts(Engine engine, int h, int a) {
            if (!isChannel(h) || !isCell(a)) {
                return false;
            }
            engine.channels[h].beginAt(a);
            return true;
        }

        private static boolean stops(Engine engine, int h) {
            if (!isChannel(h) || engine.channels[h].condition != BUSY) {
                return false;
            }
            engine.channels[h].become(IDLE);
            return true;
        }

        private static boolean gives(Engine engine, int c, int n, int owner) {
            if (!isCell(c) || n < 1 || owner >= OWNERS) {
                return false;
            }
            engine.giveCells(c, n, owner);
            return true;
        }
    }
}
