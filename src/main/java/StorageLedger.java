/**
 * A ledger of storage by double entry: a map of blocks, each of which is in one pool, and a journal
 * of the transfers between the pools.
 *
 * <p>The face looks at the arguments and throws; the classes inside hold the state and rely on
 * arguments that have been looked at. All rows are made once and used again, so that no call but
 * the first use of a snapshot's slot makes anything that stays.
 */
public final class StorageLedger {
    public static final int NONE = -1;
    public static final int FULL = -2;
    public static final int NOT_ENOUGH = -3;
    public static final int NO_ROOM = -4;
    public static final int WRONG_STATE = -5;
    public static final int MOVED = -6;

    private static final int MAX_TEXT = 500;
    private static final int MAX_BLOCKS = 200;
    private static final int MAX_POOLS = 8;
    private static final int MAX_NAME = 6;
    private static final int MAX_QUOTA = 200;
    private static final int MAX_RATE = 9999;
    private static final int MAX_COUNT = 200;
    private static final int MAX_REASON = 9;
    private static final int MAX_TICKS = 1000;
    private static final int MAX_TIME = 1000000;
    private static final int MAX_ENTRIES = 300;
    private static final int MAX_RESERVATIONS = 60;
    private static final int MAX_CHECKPOINTS = 10;
    private static final int SLOTS = 2;
    private static final int FIRST_BLOCKS = 10;

    private static final int FREE = 0;
    private static final int[] FREE_NAME = {'f', 'r', 'e', 'e'};

    private static final int LOWEST = 0;
    private static final int HIGHEST = 1;
    private static final int OLDEST = 2;
    private static final int FITTING = 3;

    private static final int TEXT_FAILED = -100;
    private static final int COMMAND_FAILED = -1000;

    private final Text text = new Text();
    private final DescriptionReader descriptions = new DescriptionReader(text);
    private final BatchReader commands = new BatchReader(text);
    private final Ledger[] snapshots = new Ledger[SLOTS];
    private Ledger ledger = new Ledger();
    // Descriptions and batches are tried here, so that a failure leaves the ledger as it was.
    private Ledger draft = new Ledger();
    private int latestError = 0;

    public StorageLedger() {
        ledger.begin(FIRST_BLOCKS);
    }

    // ---- the text ----

    public int appendByte(int value) throws IllegalArgumentException {
        if (value < 0 || value > 255) {
            throw new IllegalArgumentException("no byte");
        }
        return text.append(value);
    }

    public int load() {
        boolean good = descriptions.readInto(draft);
        int failure = endReading();
        if (!good) {
            return failure;
        }
        useDraft();
        return ledger.pools.count;
    }

    public int textError() {
        return latestError;
    }

    public int poolNamed() {
        int pool = ledger.pools.find(text.bytes, 0, text.length);
        text.clear();
        return pool;
    }

    public int batch() {
        boolean good = commands.read(ledger.pools);
        int failure = endReading();
        if (!good) {
            return failure;
        }
        draft.copyFrom(ledger);
        int done = commands.carryOut(draft);
        if (done < commands.count) {
            return COMMAND_FAILED - done;
        }
        useDraft();
        return done;
    }

    private int endReading() {
        latestError = text.error;
        int failure = TEXT_FAILED - text.errorAt;
        text.clear();
        return failure;
    }

    private void useDraft() {
        Ledger old = ledger;
        ledger = draft;
        draft = old;
    }

    // ---- the description ----

    public int blockCount() {
        return ledger.map.count;
    }

    public int poolCount() {
        return ledger.pools.count;
    }

    public int nameByte(int pool, int index) throws IndexOutOfBoundsException {
        needPool(pool);
        return ledger.pools.letter(pool, index);
    }

    public int setPick(int pick) throws IllegalArgumentException {
        if (pick < LOWEST || pick > FITTING) {
            throw new IllegalArgumentException("no such way to pick");
        }
        int previous = ledger.way;
        ledger.way = pick;
        return previous;
    }

    // ---- time ----

    public int now() {
        return ledger.time;
    }

    public int advance(int ticks) throws IllegalArgumentException {
        needTicks(ticks);
        return ledger.pass(ticks);
    }

    // ---- transfers ----

    public int transfer(int from, int to, int count, int reason)
            throws IndexOutOfBoundsException, IllegalArgumentException {
        needTwoPools(from, to);
        needCount(count);
        needReason(reason);
        return ledger.move(from, to, count, reason);
    }

    public int transferBlock(int block, int to, int reason)
            throws IndexOutOfBoundsException, IllegalArgumentException {
        needBlock(block);
        needPool(to);
        needReason(reason);
        return ledger.moveBlock(block, to, reason);
    }

    public int reverse(int entry) throws IndexOutOfBoundsException {
        needEntry(entry);
        return ledger.moveBack(entry);
    }

    public int largestTransfer(int from, int to)
            throws IndexOutOfBoundsException, IllegalArgumentException {
        needTwoPools(from, to);
        return Math.max(0, Math.min(ledger.availableIn(from), ledger.roomIn(to)));
    }

    // ---- reservations ----

    public int reserve(int from, int to, int count, int ticks)
            throws IndexOutOfBoundsException, IllegalArgumentException {
        needTwoPools(from, to);
        needCount(count);
        needTicks(ticks);
        return ledger.hold(from, to, count, ticks);
    }

    public int commit(int reservation, int reason)
            throws IndexOutOfBoundsException, IllegalArgumentException {
        needReservation(reservation);
        needReason(reason);
        return ledger.fulfil(reservation, reason);
    }

    public int release(int reservation) throws IndexOutOfBoundsException {
        needReservation(reservation);
        return ledger.reservations.drop(reservation);
    }

    public int extend(int reservation, int ticks)
            throws IndexOutOfBoundsException, IllegalArgumentException {
        needReservation(reservation);
        needTicks(ticks);
        return ledger.reservations.prolong(reservation, ticks);
    }

    public int reservationCount() {
        return ledger.reservations.count;
    }

    public int reservationValue(int reservation, int what)
            throws IndexOutOfBoundsException, IllegalArgumentException {
        needReservation(reservation);
        if (what < 0 || what >= Reservations.WIDTH) {
            throw new IllegalArgumentException("no such property");
        }
        return ledger.reservations.value(reservation, what);
    }

    public int reservedFrom(int pool) throws IndexOutOfBoundsException {
        needPool(pool);
        return ledger.reservations.pendingSum(Reservations.FROM, pool);
    }

    public int nextExpiry() {
        return ledger.reservations.firstToExpire();
    }

    public int whenAvailable(int pool, int count)
            throws IndexOutOfBoundsException, IllegalArgumentException {
        needPool(pool);
        if (count < 0 || count > MAX_COUNT) {
            throw new IllegalArgumentException("count out of range");
        }
        return ledger.timeOfAvailable(pool, count);
    }

    // ---- pools ----

    public int balance(int pool) throws IndexOutOfBoundsException {
        needPool(pool);
        return ledger.map.countIn(pool);
    }

    public int booked(int pool) throws IndexOutOfBoundsException {
        needPool(pool);
        return ledger.bookedIn(pool);
    }

    public int available(int pool) throws IndexOutOfBoundsException {
        needPool(pool);
        return ledger.availableIn(pool);
    }

    public int room(int pool) throws IndexOutOfBoundsException {
        needPool(pool);
        return ledger.roomIn(pool);
    }

    // ---- the map ----

    public int poolOf(int block) throws IndexOutOfBoundsException {
        needBlock(block);
        return ledger.map.pools[block];
    }

    public int since(int block) throws IndexOutOfBoundsException {
        needBlock(block);
        return ledger.map.times[block];
    }

    public int blockAt(int pool, int index) throws IndexOutOfBoundsException {
        needPool(pool);
        return ledger.map.memberAt(pool, index);
    }

    public int wouldPick(int pool, int count, int index)
            throws IndexOutOfBoundsException, IllegalArgumentException {
        needPool(pool);
        needCount(count);
        if (ledger.map.countIn(pool) < count) {
            return NONE;
        }
        ledger.map.pick(ledger.way, pool, count);
        return ledger.map.pickedAt(index);
    }

    public int runCount(int pool) throws IndexOutOfBoundsException {
        needPool(pool);
        return ledger.map.runsOf(pool);
    }

    public int longestRun(int pool) throws IndexOutOfBoundsException {
        needPool(pool);
        return ledger.map.longestOf(pool);
    }

    public float fragmentation(int pool) throws IndexOutOfBoundsException {
        needPool(pool);
        int blocks = ledger.map.countIn(pool);
        if (blocks == 0) {
            return 0f;
        }
        return 1f - (float) ledger.map.longestOf(pool) / (float) blocks;
    }

    public boolean swap(int block, int other)
            throws IndexOutOfBoundsException, IllegalArgumentException {
        needBlock(block);
        needBlock(other);
        if (block == other) {
            throw new IllegalArgumentException("a block cannot be exchanged with itself");
        }
        return ledger.map.exchange(block, other);
    }

    public int bestSwap(int pool) throws IndexOutOfBoundsException {
        needPool(pool);
        return ledger.map.bestExchange(pool);
    }

    public int corrupt(int block, int pool) throws IndexOutOfBoundsException {
        needBlock(block);
        needPool(pool);
        int previous = ledger.map.pools[block];
        ledger.map.put(block, pool, ledger.time);
        return previous;
    }

    // ---- the journal ----

    public int entryCount() {
        return ledger.journal.count;
    }

    public int entryValue(int entry, int what)
            throws IndexOutOfBoundsException, IllegalArgumentException {
        needEntry(entry);
        if (what < 0 || what >= Journal.WIDTH) {
            throw new IllegalArgumentException("no such property");
        }
        return ledger.journal.value(entry, what);
    }

    public int entryBlock(int entry, int index) throws IndexOutOfBoundsException {
        needEntry(entry);
        ledger.journal.pickBlocks(entry, ledger.map.picked);
        return ledger.map.pickedAt(index);
    }

    public int bookedAt(int pool, int time)
            throws IndexOutOfBoundsException, IllegalArgumentException {
        needPool(pool);
        if (time < 0) {
            throw new IllegalArgumentException("negative time");
        }
        return ledger.opening(pool) + ledger.journal.netUntil(pool, time);
    }

    public int peak(int pool, int first, int last)
            throws IndexOutOfBoundsException, IllegalArgumentException {
        needPool(pool);
        needInterval(first, last);
        return ledger.journal.greatest(pool, ledger.opening(pool), first, last);
    }

    public int flow(int from, int to, int first, int last)
            throws IndexOutOfBoundsException, IllegalArgumentException {
        needPool(from);
        needPool(to);
        needInterval(first, last);
        return ledger.journal.sumBetween(from, to, first, last);
    }

    public int reasonTotal(int reason, int first, int last) throws IllegalArgumentException {
        needReason(reason);
        needInterval(first, last);
        return ledger.journal.sumOfReason(reason, first, last);
    }

    public int busiest(int first, int last) throws IllegalArgumentException {
        needInterval(first, last);
        return ledger.mostMoved(first, last);
    }

    // ---- rents ----

    public float rent(int pool) throws IndexOutOfBoundsException {
        needPool(pool);
        return ledger.pools.rents[pool];
    }

    public float totalRent() {
        return ledger.pools.sumOfRents();
    }

    public float rentAhead(int pool, int ticks)
            throws IndexOutOfBoundsException, IllegalArgumentException {
        needPool(pool);
        needTicks(ticks);
        return ledger.rentAfter(pool, ticks);
    }

    // ---- audits ----

    public int mismatches() {
        return ledger.unequalPools();
    }

    public int reconcile() {
        return ledger.adjust();
    }

    public int checkpoint() {
        return ledger.mark();
    }

    public int auditSet(int first, int second) throws IllegalArgumentException {
        needCheckpoints(first, second);
        return ledger.auditedPools(first, second);
    }

    public int auditOf(int first, int second, int pool)
            throws IndexOutOfBoundsException, IllegalArgumentException {
        needPool(pool);
        needCheckpoints(first, second);
        return ledger.auditedChange(first, second, pool);
    }

    // ---- snapshots ----

    public int saveSnapshot(int slot) throws IllegalArgumentException {
        needSlot(slot);
        Ledger snapshot = snapshots[slot];
        if (snapshot == null) {
            snapshot = new Ledger();
            snapshots[slot] = snapshot;
        }
        snapshot.copyFrom(ledger);
        return ledger.time;
    }

    public int restoreSnapshot(int slot) throws IllegalArgumentException {
        needSlot(slot);
        Ledger snapshot = snapshots[slot];
        if (snapshot == null) {
            return NONE;
        }
        ledger.copyFrom(snapshot);
        return ledger.time;
    }

    // ---- what arguments must be ----

    private void needPool(int pool) {
        if (pool < 0 || pool >= ledger.pools.count) {
            throw new IndexOutOfBoundsException("no such pool");
        }
    }

    private void needTwoPools(int from, int to) {
        needPool(from);
        needPool(to);
        if (from == to) {
            throw new IllegalArgumentException("both pools are the same");
        }
    }

    private void needBlock(int block) {
        if (block < 0 || block >= ledger.map.count) {
            throw new IndexOutOfBoundsException("no such block");
        }
    }

    private void needEntry(int entry) {
        if (entry < 0 || entry >= ledger.journal.count) {
            throw new IndexOutOfBoundsException("no such entry");
        }
    }

    private void needReservation(int reservation) {
        if (reservation < 0 || reservation >= ledger.reservations.count) {
            throw new IndexOutOfBoundsException("no such reservation");
        }
    }

    private void needCheckpoints(int first, int second) {
        if (first < 0 || second >= ledger.checkpoints.count || first > second) {
            throw new IllegalArgumentException("no such checkpoints");
        }
    }

    private static void needCount(int count) {
        if (count < 1 || count > MAX_COUNT) {
            throw new IllegalArgumentException("count out of range");
        }
    }

    private static void needReason(int reason) {
        if (reason < 0 || reason > MAX_REASON) {
            throw new IllegalArgumentException("reason out of range");
        }
    }

    private static void needTicks(int ticks) {
        if (ticks < 1 || ticks > MAX_TICKS) {
            throw new IllegalArgumentException("ticks out of range");
        }
    }

    private static void needInterval(int first, int last) {
        if (first < 0 || first > last) {
            throw new IllegalArgumentException("no such interval");
        }
    }

    private static void needSlot(int slot) {
        if (slot < 0 || slot >= SLOTS) {
            throw new IllegalArgumentException("no such slot");
        }
    }

    /** The input buffer, and its reading token by token. */
    private static final class Text {
        static final int MISPLACED = 1;
        static final int OUT_OF_RANGE = 2;
        static final int WRONG_NAME = 3;
        static final int TOO_MANY_POOLS = 4;

        private static final int END = 0;
        private static final int WORD = 1;
        private static final int NUMBER = 2;
        private static final int SEMICOLON = 3;
        private static final int OTHER = 4;

        // Above every range of the document; a longer number stays here and cannot overflow.
        private static final int TOO_GREAT = 10000;

        final int[] bytes = new int[MAX_TEXT];
        int length = 0;
        // The present token: its kind, its first byte, and the byte behind it.
        private int kind = END;
        int start = 0;
        private int behind = 0;
        int error = 0;
        int errorAt = 0;

        int append(int value) {
            if (length >= MAX_TEXT) {
                return FULL;
            }
            bytes[length] = value;
            length++;
            return length;
        }

        void clear() {
            length = 0;
        }

        void rewind() {
            start = 0;
            behind = 0;
            error = 0;
            errorAt = 0;
        }

        /** Notes an error at the present token; false, so that a reader can return it at once. */
        boolean fail(int which) {
            error = which;
            errorAt = start;
            return false;
        }

        boolean readWord() {
            next();
            return kind == WORD || fail(MISPLACED);
        }

        boolean readSemicolon() {
            next();
            return kind == SEMICOLON;
        }

        /** Whether the present token, which was not fit to go on with, is the end of the text. */
        boolean isAtEnd() {
            return kind == END || fail(MISPLACED);
        }

        /** The number that follows; NONE on an error. */
        int readNumber(int least, int most) {
            next();
            if (kind != NUMBER) {
                fail(MISPLACED);
                return NONE;
            }
            int number = 0;
            for (int at = start; at < behind; at++) {
                number = Math.min(number * 10 + bytes[at] - '0', TOO_GREAT);
            }
            if (number < least || number > most) {
                fail(OUT_OF_RANGE);
                return NONE;
            }
            return number;
        }

        boolean isWord(String word) {
            if (wordLength() != word.length()) {
                return false;
            }
            for (int i = 0; i < word.length(); i++) {
                if (bytes[start + i] != word.charAt(i)) {
                    return false;
                }
            }
            return true;
        }

        int wordLength() {
            return behind - start;
        }

        private void next() {
            start = behind;
            while (start < length && bytes[start] == ' ') {
                start++;
            }
            behind = start;
            while (behind < length && bytes[behind] >= 'a' && bytes[behind] <= 'z') {
                behind++;
            }
            if (behind > start) {
                kind = WORD;
                return;
            }
            while (behind < length && bytes[behind] >= '0' && bytes[behind] <= '9') {
                behind++;
            }
            if (behind > start) {
                kind = NUMBER;
                return;
            }
            if (start >= length) {
                kind = END;
                return;
            }
            kind = bytes[start] == ';' ? SEMICOLON : OTHER;
            behind++;
        }
    }

    /** Reads a description and builds the ledger that it describes. */
    private static final class DescriptionReader {
        private final Text text;

        DescriptionReader(Text text) {
            this.text = text;
        }

        boolean readInto(Ledger target) {
            text.rewind();
            if (!readBlocks(target)) {
                return false;
            }
            for (int read = 1; read < MAX_TEXT && text.readSemicolon(); read++) {
                if (!readStatement(target)) {
                    return false;
                }
            }
            return text.isAtEnd();
        }

        private boolean readBlocks(Ledger target) {
            if (!text.readWord()) {
                return false;
            }
            if (!text.isWord("blocks")) {
                return text.fail(Text.MISPLACED);
            }
            int blocks = text.readNumber(1, MAX_BLOCKS);
            if (blocks == NONE) {
                return false;
            }
            target.begin(blocks);
            return true;
        }

        private boolean readStatement(Ledger target) {
            if (!text.readWord()) {
                return false;
            }
            if (text.isWord("pool")) {
                return readPool(target.pools);
            }
            if (text.isWord("pick")) {
                return readPick(target);
            }
            if (text.isWord("grant")) {
                return readGrant(target);
            }
            return text.fail(Text.MISPLACED);
        }

        private boolean readPool(Pools pools) {
            if (pools.count >= MAX_POOLS) {
                return text.fail(Text.TOO_MANY_POOLS);
            }
            if (!text.readWord()) {
                return false;
            }
            if (text.wordLength() > MAX_NAME || text.isWord("free")) {
                return text.fail(Text.MISPLACED);
            }
            if (pools.find(text.bytes, text.start, text.wordLength()) != NONE) {
                return text.fail(Text.WRONG_NAME);
            }
            // The word is gone when the numbers are read, so the pool is opened before them.
            int pool = pools.open(text.bytes, text.start, text.wordLength());
            int quota = text.readNumber(0, MAX_QUOTA);
            if (quota == NONE) {
                return false;
            }
            int rate = text.readNumber(0, MAX_RATE);
            if (rate == NONE) {
                return false;
            }
            pools.setTerms(pool, quota, rate);
            return true;
        }

        private boolean readPick(Ledger target) {
            if (!text.readWord()) {
                return false;
            }
            if (text.isWord("lowest")) {
                target.way = LOWEST;
            } else if (text.isWord("highest")) {
                target.way = HIGHEST;
            } else if (text.isWord("oldest")) {
                target.way = OLDEST;
            } else if (text.isWord("fitting")) {
                target.way = FITTING;
            } else {
                return text.fail(Text.MISPLACED);
            }
            return true;
        }

        private boolean readGrant(Ledger target) {
            if (!text.readWord()) {
                return false;
            }
            int pool = target.pools.find(text.bytes, text.start, text.wordLength());
            if (pool == NONE || pool == FREE) {
                return text.fail(Text.WRONG_NAME);
            }
            int most = Math.min(target.availableIn(FREE), target.roomIn(pool));
            int count = text.readNumber(1, most);
            if (count == NONE) {
                return false;
            }
            target.grant(pool, count);
            return true;
        }
    }

    /** Reads a batch as a whole, and then carries it out. */
    private static final class BatchReader {
        // The shortest commands have five bytes and a semicolon, so 500 bytes hold at most 83.
        private static final int MAX_COMMANDS = 100;
        private static final int WIDTH = 5;

        private static final int MOVE = 0;
        private static final int HOLD = 1;
        private static final int WAIT = 2;
        private static final int BACK = 3;

        private final Text text;
        // A row for each command: what it is, its first number, two pools, its last number.
        private final int[] rows = new int[MAX_COMMANDS * WIDTH];
        int count = 0;

        BatchReader(Text text) {
            this.text = text;
        }

        boolean read(Pools pools) {
            text.rewind();
            count = 0;
            if (!readCommand(pools)) {
                return false;
            }
            for (int read = 1; read < MAX_COMMANDS && text.readSemicolon(); read++) {
                if (!readCommand(pools)) {
                    return false;
                }
            }
            return text.isAtEnd();
        }

        /** How many commands could be carried out before one could not. */
        int carryOut(Ledger target) {
            for (int command = 0; command < count; command++) {
                if (carryOutOne(command * WIDTH, target) < 0) {
                    return command;
                }
            }
            return count;
        }

        private boolean readCommand(Pools pools) {
            if (!text.readWord()) {
                return false;
            }
            if (text.isWord("move")) {
                return readLong(MOVE, pools, 0, MAX_REASON);
            }
            if (text.isWord("hold")) {
                return readLong(HOLD, pools, 1, MAX_TICKS);
            }
            if (text.isWord("wait")) {
                return readShort(WAIT, 1, MAX_TICKS);
            }
            if (text.isWord("back")) {
                return readShort(BACK, 0, MAX_ENTRIES - 1);
            }
            return text.fail(Text.MISPLACED);
        }

        private boolean readLong(int command, Pools pools, int least, int most) {
            int number = text.readNumber(1, MAX_COUNT);
            if (number == NONE) {
                return false;
            }
            int from = readPoolOtherThan(NONE, pools);
            if (from == NONE) {
                return false;
            }
            int to = readPoolOtherThan(from, pools);
            if (to == NONE) {
                return false;
            }
            int last = text.readNumber(least, most);
            if (last == NONE) {
                return false;
            }
            addRow(command, number, from, to, last);
            return true;
        }

        private boolean readShort(int command, int least, int most) {
            int number = text.readNumber(least, most);
            if (number == NONE) {
                return false;
            }
            addRow(command, number, NONE, NONE, NONE);
            return true;
        }

        private int readPoolOtherThan(int taken, Pools pools) {
            if (!text.readWord()) {
                return NONE;
            }
            int pool = pools.find(text.bytes, text.start, text.wordLength());
            if (pool == NONE || pool == taken) {
                text.fail(Text.WRONG_NAME);
                return NONE;
            }
            return pool;
        }

        private void addRow(int command, int number, int from, int to, int last) {
            int row = count * WIDTH;
            rows[row] = command;
            rows[row + 1] = number;
            rows[row + 2] = from;
            rows[row + 3] = to;
            rows[row + 4] = last;
            count++;
        }

        private int carryOutOne(int row, Ledger target) {
            int number = rows[row + 1];
            int from = rows[row + 2];
            int to = rows[row + 3];
            int last = rows[row + 4];
            switch (rows[row]) {
                case MOVE:
                    return target.move(from, to, number, last);
                case HOLD:
                    return target.hold(from, to, number, last);
                case WAIT:
                    return target.pass(number);
                default:
                    return number < target.journal.count ? target.moveBack(number) : NONE;
            }
        }
    }

    /** All that a snapshot contains, and the rules that join its parts. */
    private static final class Ledger {
        final Pools pools = new Pools();
        final BlockMap map = new BlockMap();
        final Journal journal = new Journal();
        final Reservations reservations = new Reservations();
        final Checkpoints checkpoints = new Checkpoints();
        int time = 0;
        int way = LOWEST;
        // Used within one call only: what each pool has by the journal beyond the map.
        private final int[] surplus = new int[MAX_POOLS];

        void begin(int blocks) {
            pools.begin(blocks);
            map.begin(blocks);
            journal.count = 0;
            reservations.count = 0;
            checkpoints.count = 0;
            time = 0;
            way = LOWEST;
        }

        void copyFrom(Ledger other) {
            pools.copyFrom(other.pools);
            map.copyFrom(other.map);
            journal.copyFrom(other.journal);
            reservations.copyFrom(other.reservations);
            checkpoints.copyFrom(other.checkpoints);
            time = other.time;
            way = other.way;
        }

        int availableIn(int pool) {
            return map.countIn(pool) - reservations.pendingSum(Reservations.FROM, pool);
        }

        int roomIn(int pool) {
            return pools.quotas[pool] - map.countIn(pool)
                    - reservations.pendingSum(Reservations.TO, pool);
        }

        int opening(int pool) {
            return pool == FREE ? map.count : 0;
        }

        int bookedIn(int pool) {
            return opening(pool) + journal.net(pool, 0, journal.count);
        }

        // ---- transfers ----

        /** The reader has seen to it that so many blocks can go; a text has room for few grants. */
        void grant(int pool, int count) {
            map.pickNothing();
            map.pickLowest(FREE, count, 0);
            book(FREE, pool, count, 0, Journal.TRANSFER);
        }

        int move(int from, int to, int count, int reason) {
            if (journal.isFull()) {
                return FULL;
            }
            int obstacle = obstacle(from, to, count, 0);
            if (obstacle < 0) {
                return obstacle;
            }
            map.pick(way, from, count);
            return book(from, to, count, reason, Journal.TRANSFER);
        }

        int moveBlock(int block, int to, int reason) {
            if (journal.isFull()) {
                return FULL;
            }
            int from = map.pools[block];
            if (from == to) {
                return WRONG_STATE;
            }
            int obstacle = obstacle(from, to, 1, 0);
            if (obstacle < 0) {
                return obstacle;
            }
            map.pickOne(block);
            return book(from, to, 1, reason, Journal.TRANSFER);
        }

        int moveBack(int entry) {
            if (journal.isFull()) {
                return FULL;
            }
            if (!journal.isReversible(entry)) {
                return WRONG_STATE;
            }
            int from = journal.value(entry, Journal.FROM);
            int to = journal.value(entry, Journal.TO);
            int count = journal.value(entry, Journal.COUNT);
            journal.pickBlocks(entry, map.picked);
            if (!map.allPickedAreIn(to)) {
                return MOVED;
            }
            int obstacle = obstacle(to, from, count, 0);
            if (obstacle < 0) {
                return obstacle;
            }
            int reason = journal.value(entry, Journal.REASON);
            int reversal = book(to, from, count, reason, Journal.REVERSAL);
            journal.link(entry, reversal);
            return reversal;
        }

        /** The error that forbids a transfer, or 0; own is what a reservation holds for it. */
        private int obstacle(int from, int to, int count, int own) {
            if (availableIn(from) + own < count) {
                return NOT_ENOUGH;
            }
            if (roomIn(to) + own < count) {
                return NO_ROOM;
            }
            return 0;
        }

        private int book(int from, int to, int count, int reason, int kind) {
            int entry = journal.add(from, to, count, reason, time, kind);
            journal.keepBlocks(entry, map.picked);
            map.putPicked(to, time);
            return entry;
        }

        int mostMoved(int first, int last) {
            int most = 0;
            int found = NONE;
            for (int pool = 0; pool < pools.count; pool++) {
                int moved = journal.turnover(pool, first, last);
                if (moved > most) {
                    most = moved;
                    found = pool;
                }
            }
            return found;
        }

        // ---- reservations ----

        int hold(int from, int to, int count, int ticks) {
            if (reservations.isFull()) {
                return FULL;
            }
            int obstacle = obstacle(from, to, count, 0);
            if (obstacle < 0) {
                return obstacle;
            }
            return reservations.add(from, to, count, time + ticks);
        }

        int fulfil(int reservation, int reason) {
            if (!reservations.isPending(reservation)) {
                return WRONG_STATE;
            }
            if (journal.isFull()) {
                return FULL;
            }
            int from = reservations.value(reservation, Reservations.FROM);
            int to = reservations.value(reservation, Reservations.TO);
            int count = reservations.value(reservation, Reservations.COUNT);
            int obstacle = obstacle(from, to, count, count);
            if (obstacle < 0) {
                return obstacle;
            }
            reservations.end(reservation, Reservations.COMMITTED);
            map.pick(way, from, count);
            return book(from, to, count, reason, Journal.TRANSFER);
        }

        int timeOfAvailable(int pool, int count) {
            if (availableIn(pool) >= count) {
                return time;
            }
            // The blocks of the pool stay; only what is reserved from them can become less.
            return reservations.timeOfSum(pool, map.countIn(pool) - count);
        }

        // ---- time and rents ----

        int pass(int ticks) {
            if (time + ticks > MAX_TIME) {
                return FULL;
            }
            for (int pool = 0; pool < pools.count; pool++) {
                pools.rents[pool] = rentAfter(pool, ticks);
            }
            time += ticks;
            return reservations.expire(time);
        }

        float rentAfter(int pool, int ticks) {
            return pools.rents[pool] + pools.rates[pool] / 100f * (map.countIn(pool) * ticks);
        }

        // ---- the map against the journal ----

        int unequalPools() {
            int found = 0;
            for (int pool = 0; pool < pools.count; pool++) {
                if (bookedIn(pool) != map.countIn(pool)) {
                    found |= 1 << pool;
                }
            }
            return found;
        }

        int adjust() {
            int before = journal.count;
            for (int pool = 0; pool < pools.count; pool++) {
                surplus[pool] = bookedIn(pool) - map.countIn(pool);
            }
            // Each adjustment settles at least one pool, so there are fewer than pools.
            for (int turn = 0; turn < MAX_POOLS; turn++) {
                int from = firstWithSurplus(1);
                int to = firstWithSurplus(-1);
                if (from == NONE || to == NONE) {
                    break;
                }
                if (journal.isFull()) {
                    journal.count = before;
                    return FULL;
                }
                int count = Math.min(surplus[from], -surplus[to]);
                surplus[from] -= count;
                surplus[to] += count;
                journal.add(from, to, count, 0, time, Journal.ADJUSTMENT);
            }
            return journal.count - before;
        }

        private int firstWithSurplus(int sign) {
            for (int pool = 0; pool < pools.count; pool++) {
                if (surplus[pool] * sign > 0) {
                    return pool;
                }
            }
            return NONE;
        }

        // ---- audits ----

        int mark() {
            if (checkpoints.count >= MAX_CHECKPOINTS) {
                return FULL;
            }
            int made = checkpoints.add(journal.count);
            for (int pool = 0; pool < pools.count; pool++) {
                checkpoints.setBlocks(made, pool, map.countIn(pool));
            }
            return made;
        }

        int auditedPools(int first, int second) {
            int found = 0;
            for (int pool = 0; pool < pools.count; pool++) {
                if (auditedChange(first, second, pool) != 0) {
                    found |= 1 << pool;
                }
            }
            return found;
        }

        int auditedChange(int first, int second, int pool) {
            int onMap = checkpoints.blocksOf(second, pool) - checkpoints.blocksOf(first, pool);
            int byEntries =
                    journal.net(pool, checkpoints.entriesOf(first), checkpoints.entriesOf(second));
            return onMap - byEntries;
        }
    }

    /** The pools: their names and terms, and what they were charged. */
    private static final class Pools {
        int count = 0;
        final int[] quotas = new int[MAX_POOLS];
        final int[] rates = new int[MAX_POOLS];
        final float[] rents = new float[MAX_POOLS];
        private final int[] letters = new int[MAX_POOLS * MAX_NAME];
        private final int[] lengths = new int[MAX_POOLS];

        void begin(int blocks) {
            count = 0;
            int free = open(FREE_NAME, 0, FREE_NAME.length);
            setTerms(free, blocks, 0);
        }

        int open(int[] bytes, int start, int length) {
            int pool = count;
            for (int i = 0; i < length && i < MAX_NAME; i++) {
                letters[pool * MAX_NAME + i] = bytes[start + i];
            }
            lengths[pool] = length;
            rents[pool] = 0f;
            count++;
            return pool;
        }

        void setTerms(int pool, int quota, int rate) {
            quotas[pool] = quota;
            rates[pool] = rate;
        }

        int letter(int pool, int index) {
            if (index < 0 || index >= lengths[pool]) {
                return NONE;
            }
            return letters[pool * MAX_NAME + index];
        }

        int find(int[] bytes, int start, int length) {
            for (int pool = 0; pool < count; pool++) {
                if (lengths[pool] == length && hasName(pool, bytes, start)) {
                    return pool;
                }
            }
            return NONE;
        }

        private boolean hasName(int pool, int[] bytes, int start) {
            for (int i = 0; i < lengths[pool]; i++) {
                if (letters[pool * MAX_NAME + i] != bytes[start + i]) {
                    return false;
                }
            }
            return true;
        }

        float sumOfRents() {
            float sum = 0f;
            for (int pool = 0; pool < count; pool++) {
                sum += rents[pool];
            }
            return sum;
        }

        void copyFrom(Pools other) {
            count = other.count;
            System.arraycopy(other.quotas, 0, quotas, 0, MAX_POOLS);
            System.arraycopy(other.rates, 0, rates, 0, MAX_POOLS);
            System.arraycopy(other.rents, 0, rents, 0, MAX_POOLS);
            System.arraycopy(other.letters, 0, letters, 0, MAX_POOLS * MAX_NAME);
            System.arraycopy(other.lengths, 0, lengths, 0, MAX_POOLS);
        }
    }

    /** Which pool each block is in and since when, and how blocks are picked. */
    private static final class BlockMap {
        private static final int OWN_BLOCK = 1000;

        int count = 0;
        final int[] pools = new int[MAX_BLOCKS];
        final int[] times = new int[MAX_BLOCKS];
        // Used within one call only, and so no part of a copy.
        final boolean[] picked = new boolean[MAX_BLOCKS];

        void begin(int blocks) {
            count = blocks;
            for (int block = 0; block < MAX_BLOCKS; block++) {
                put(block, FREE, 0);
            }
        }

        void copyFrom(BlockMap other) {
            count = other.count;
            System.arraycopy(other.pools, 0, pools, 0, MAX_BLOCKS);
            System.arraycopy(other.times, 0, times, 0, MAX_BLOCKS);
        }

        void put(int block, int pool, int time) {
            pools[block] = pool;
            times[block] = time;
        }

        int countIn(int pool) {
            int found = 0;
            for (int block = 0; block < count; block++) {
                if (pools[block] == pool) {
                    found++;
                }
            }
            return found;
        }

        int memberAt(int pool, int index) {
            int passed = 0;
            for (int block = 0; block < count; block++) {
                if (pools[block] == pool) {
                    if (passed == index) {
                        return block;
                    }
                    passed++;
                }
            }
            return NONE;
        }

        boolean exchange(int block, int other) {
            int pool = pools[block];
            int time = times[block];
            put(block, pools[other], times[other]);
            put(other, pool, time);
            return pools[block] != pool;
        }

        // ---- picking ----

        void pick(int way, int pool, int wanted) {
            pickNothing();
            switch (way) {
                case HIGHEST:
                    pickHighest(pool, wanted);
                    break;
                case OLDEST:
                    pickOldest(pool, wanted);
                    break;
                case FITTING:
                    pickLowest(pool, wanted, fittingStart(pool, wanted));
                    break;
                default:
                    pickLowest(pool, wanted, 0);
                    break;
            }
        }

        void pickOne(int block) {
            pickNothing();
            picked[block] = true;
        }

        void pickNothing() {
            for (int block = 0; block < MAX_BLOCKS; block++) {
                picked[block] = false;
            }
        }

        void pickLowest(int pool, int wanted, int start) {
            int left = wanted;
            for (int block = start; block < count && left > 0; block++) {
                if (pools[block] == pool) {
                    picked[block] = true;
                    left--;
                }
            }
        }

        private void pickHighest(int pool, int wanted) {
            int left = wanted;
            for (int block = count - 1; block >= 0 && left > 0; block--) {
                if (pools[block] == pool) {
                    picked[block] = true;
                    left--;
                }
            }
        }

        /** Takes the blocks time by time, from the smallest one on. */
        private void pickOldest(int pool, int wanted) {
            int left = wanted;
            int time = nextTime(pool, NONE);
            for (int turn = 0; turn < MAX_BLOCKS && left > 0 && time != NONE; turn++) {
                for (int block = 0; block < count && left > 0; block++) {
                    if (pools[block] == pool && times[block] == time) {
                        picked[block] = true;
                        left--;
                    }
                }
                time = nextTime(pool, time);
            }
        }

        /** The smallest time behind this one since which a block of the pool has been in it. */
        private int nextTime(int pool, int time) {
            int found = NONE;
            for (int block = 0; block < count; block++) {
                boolean later = pools[block] == pool && times[block] > time;
                if (later && (found == NONE || times[block] < found)) {
                    found = times[block];
                }
            }
            return found;
        }

        /** Where the run begins that fits best; without one 0, for then it is as with lowest. */
        private int fittingStart(int pool, int wanted) {
            int start = 0;
            int shortest = MAX_BLOCKS + 1;
            int length = 0;
            for (int block = 0; block < count; block++) {
                length = pools[block] == pool ? length + 1 : 0;
                if (endsRun(pool, block) && length >= wanted && length < shortest) {
                    shortest = length;
                    start = block + 1 - length;
                }
            }
            return start;
        }

        int pickedAt(int index) {
            int passed = 0;
            for (int block = 0; block < count; block++) {
                if (picked[block]) {
                    if (passed == index) {
                        return block;
                    }
                    passed++;
                }
            }
            return NONE;
        }

        boolean allPickedAreIn(int pool) {
            for (int block = 0; block < count; block++) {
                if (picked[block] && pools[block] != pool) {
                    return false;
                }
            }
            return true;
        }

        void putPicked(int pool, int time) {
            for (int block = 0; block < count; block++) {
                if (picked[block]) {
                    pools[block] = pool;
                    times[block] = time;
                }
            }
        }

        // ---- runs ----

        private boolean endsRun(int pool, int block) {
            return pools[block] == pool && (block + 1 >= count || pools[block + 1] != pool);
        }

        int runsOf(int pool) {
            int runs = 0;
            for (int block = 0; block < count; block++) {
                if (endsRun(pool, block)) {
                    runs++;
                }
            }
            return runs;
        }

        int longestOf(int pool) {
            int longest = 0;
            int length = 0;
            for (int block = 0; block < count; block++) {
                length = pools[block] == pool ? length + 1 : 0;
                longest = Math.max(longest, length);
            }
            return longest;
        }

        /**
         * An exchange can only lengthen the run that the other block joins: every other run loses
         * a block or stays. So that run alone is measured.
         */
        int bestExchange(int pool) {
            int best = NONE;
            int longest = longestOf(pool);
            for (int own = 0; own < count; own++) {
                if (pools[own] != pool) {
                    continue;
                }
                for (int other = 0; other < count; other++) {
                    int length = pools[other] == pool ? 0 : joinedLength(pool, own, other);
                    if (length > longest) {
                        longest = length;
                        best = OWN_BLOCK * own + other;
                    }
                }
            }
            return best;
        }

        /** The length of the run through the other block, if it took the place of own. */
        private int joinedLength(int pool, int own, int other) {
            int length = 1;
            for (int at = other - 1; at >= 0 && pools[at] == pool && at != own; at--) {
                length++;
            }
            for (int at = other + 1; at < count && pools[at] == pool && at != own; at++) {
                length++;
            }
            return length;
        }
    }

    /** The entries, in the order of their times. */
    private static final class Journal {
        static final int FROM = 0;
        static final int TO = 1;
        static final int COUNT = 2;
        static final int REASON = 3;
        static final int TIME = 4;
        static final int KIND = 5;
        static final int PARTNER = 6;
        static final int WIDTH = 7;

        static final int TRANSFER = 0;
        static final int REVERSAL = 1;
        static final int ADJUSTMENT = 2;

        // The blocks of an entry are bits, so that copies of the journal stay small.
        private static final int WORDS = 4;
        private static final int BITS = 64;

        int count = 0;
        private final int[] rows = new int[MAX_ENTRIES * WIDTH];
        private final long[] blocks = new long[MAX_ENTRIES * WORDS];

        boolean isFull() {
            return count >= MAX_ENTRIES;
        }

        int add(int from, int to, int number, int reason, int time, int kind) {
            int entry = count;
            int row = entry * WIDTH;
            rows[row + FROM] = from;
            rows[row + TO] = to;
            rows[row + COUNT] = number;
            rows[row + REASON] = reason;
            rows[row + TIME] = time;
            rows[row + KIND] = kind;
            rows[row + PARTNER] = NONE;
            for (int word = 0; word < WORDS; word++) {
                blocks[entry * WORDS + word] = 0L;
            }
            count++;
            return entry;
        }

        int value(int entry, int what) {
            return rows[entry * WIDTH + what];
        }

        void link(int entry, int reversal) {
            rows[entry * WIDTH + PARTNER] = reversal;
            rows[reversal * WIDTH + PARTNER] = entry;
        }

        boolean isReversible(int entry) {
            return value(entry, KIND) == TRANSFER && value(entry, PARTNER) == NONE;
        }

        void copyFrom(Journal other) {
            count = other.count;
            System.arraycopy(other.rows, 0, rows, 0, MAX_ENTRIES * WIDTH);
            System.arraycopy(other.blocks, 0, blocks, 0, MAX_ENTRIES * WORDS);
        }

        // ---- the blocks of entries ----

        void keepBlocks(int entry, boolean[] picked) {
            for (int block = 0; block < MAX_BLOCKS; block++) {
                if (picked[block]) {
                    blocks[entry * WORDS + block / BITS] |= 1L << block % BITS;
                }
            }
        }

        void pickBlocks(int entry, boolean[] picked) {
            for (int block = 0; block < MAX_BLOCKS; block++) {
                long word = blocks[entry * WORDS + block / BITS];
                picked[block] = (word >>> block % BITS & 1L) != 0L;
            }
        }

        // ---- sums ----

        /** By how much an entry changes the balance of a pool. */
        private int change(int entry, int pool) {
            int change = 0;
            if (value(entry, TO) == pool) {
                change += value(entry, COUNT);
            }
            if (value(entry, FROM) == pool) {
                change -= value(entry, COUNT);
            }
            return change;
        }

        private boolean isWithin(int entry, int first, int last) {
            int time = value(entry, TIME);
            return first <= time && time <= last;
        }

        /** The change by the entries from this one on, before the one that ends them. */
        int net(int pool, int first, int end) {
            int sum = 0;
            for (int entry = first; entry < end; entry++) {
                sum += change(entry, pool);
            }
            return sum;
        }

        int netUntil(int pool, int time) {
            int sum = 0;
            for (int entry = 0; entry < count; entry++) {
                if (value(entry, TIME) <= time) {
                    sum += change(entry, pool);
                }
            }
            return sum;
        }

        int greatest(int pool, int opening, int first, int last) {
            int sum = opening;
            int greatest = opening;
            for (int entry = 0; entry < count && value(entry, TIME) <= last; entry++) {
                sum += change(entry, pool);
                // Before the interval only the latest balance counts, not the greatest.
                greatest = value(entry, TIME) < first ? sum : Math.max(greatest, sum);
            }
            return greatest;
        }

        int sumBetween(int from, int to, int first, int last) {
            int sum = 0;
            for (int entry = 0; entry < count; entry++) {
                boolean between = value(entry, FROM) == from && value(entry, TO) == to;
                if (between && isWithin(entry, first, last)) {
                    sum += value(entry, COUNT);
                }
            }
            return sum;
        }

        int sumOfReason(int reason, int first, int last) {
            int sum = 0;
            for (int entry = 0; entry < count; entry++) {
                if (value(entry, REASON) == reason && isWithin(entry, first, last)) {
                    sum += signed(entry);
                }
            }
            return sum;
        }

        private int signed(int entry) {
            int number = value(entry, COUNT);
            switch (value(entry, KIND)) {
                case TRANSFER:
                    return number;
                case REVERSAL:
                    return -number;
                default:
                    return 0;
            }
        }

        int turnover(int pool, int first, int last) {
            int sum = 0;
            for (int entry = 0; entry < count; entry++) {
                boolean concerned = value(entry, FROM) == pool || value(entry, TO) == pool;
                if (concerned && isWithin(entry, first, last)) {
                    sum += value(entry, COUNT);
                }
            }
            return sum;
        }
    }

    /** The reservations, whatever their states. */
    private static final class Reservations {
        static final int FROM = 0;
        static final int TO = 1;
        static final int COUNT = 2;
        static final int EXPIRY = 3;
        static final int STATE = 4;
        static final int WIDTH = 5;

        static final int PENDING = 0;
        static final int COMMITTED = 1;
        static final int RELEASED = 2;
        static final int EXPIRED = 3;

        int count = 0;
        private final int[] rows = new int[MAX_RESERVATIONS * WIDTH];

        boolean isFull() {
            return count >= MAX_RESERVATIONS;
        }

        int add(int from, int to, int number, int expiry) {
            int reservation = count;
            int row = reservation * WIDTH;
            rows[row + FROM] = from;
            rows[row + TO] = to;
            rows[row + COUNT] = number;
            rows[row + EXPIRY] = expiry;
            rows[row + STATE] = PENDING;
            count++;
            return reservation;
        }

        int value(int reservation, int what) {
            return rows[reservation * WIDTH + what];
        }

        boolean isPending(int reservation) {
            return value(reservation, STATE) == PENDING;
        }

        void end(int reservation, int state) {
            rows[reservation * WIDTH + STATE] = state;
        }

        int drop(int reservation) {
            if (!isPending(reservation)) {
                return WRONG_STATE;
            }
            end(reservation, RELEASED);
            return pendingCount();
        }

        int prolong(int reservation, int ticks) {
            if (!isPending(reservation)) {
                return WRONG_STATE;
            }
            int expiry = value(reservation, EXPIRY) + ticks;
            rows[reservation * WIDTH + EXPIRY] = expiry;
            return expiry;
        }

        /** Ends what is due at this time; how many these were. */
        int expire(int time) {
            int expired = 0;
            for (int reservation = 0; reservation < count; reservation++) {
                if (isPending(reservation) && value(reservation, EXPIRY) <= time) {
                    end(reservation, EXPIRED);
                    expired++;
                }
            }
            return expired;
        }

        private int pendingCount() {
            int pending = 0;
            for (int reservation = 0; reservation < count; reservation++) {
                if (isPending(reservation)) {
                    pending++;
                }
            }
            return pending;
        }

        /** What is pending from a pool, or to it, by which of both is said. */
        int pendingSum(int side, int pool) {
            int sum = 0;
            for (int reservation = 0; reservation < count; reservation++) {
                int row = reservation * WIDTH;
                if (rows[row + STATE] == PENDING && rows[row + side] == pool) {
                    sum += rows[row + COUNT];
                }
            }
            return sum;
        }

        /** What is still pending from a pool at the end of a time, if only time passes. */
        private int pendingAfter(int pool, int time) {
            int sum = 0;
            for (int reservation = 0; reservation < count; reservation++) {
                boolean waits = isPending(reservation) && value(reservation, EXPIRY) > time;
                if (waits && value(reservation, FROM) == pool) {
                    sum += value(reservation, COUNT);
                }
            }
            return sum;
        }

        int firstToExpire() {
            int found = NONE;
            for (int reservation = 0; reservation < count; reservation++) {
                boolean earlier = found == NONE
                        || value(reservation, EXPIRY) < value(found, EXPIRY);
                if (isPending(reservation) && earlier) {
                    found = reservation;
                }
            }
            return found;
        }

        /** The first expiry after which at most this much is pending from a pool; NONE if never. */
        int timeOfSum(int pool, int most) {
            int found = NONE;
            for (int reservation = 0; reservation < count; reservation++) {
                int expiry = value(reservation, EXPIRY);
                boolean earlier = found == NONE || expiry < found;
                if (isPending(reservation) && earlier && pendingAfter(pool, expiry) <= most) {
                    found = expiry;
                }
            }
            return found;
        }

        void copyFrom(Reservations other) {
            count = other.count;
            System.arraycopy(other.rows, 0, rows, 0, MAX_RESERVATIONS * WIDTH);
        }
    }

    /** What audits compare: the blocks of all pools and the number of entries at some moments. */
    private static final class Checkpoints {
        private static final int WIDTH = MAX_POOLS + 1;

        int count = 0;
        private final int[] rows = new int[MAX_CHECKPOINTS * WIDTH];

        int add(int entries) {
            int made = count;
            rows[made * WIDTH + MAX_POOLS] = entries;
            count++;
            return made;
        }

        void setBlocks(int made, int pool, int blocks) {
            rows[made * WIDTH + pool] = blocks;
        }

        int blocksOf(int made, int pool) {
            return rows[made * WIDTH + pool];
        }

        int entriesOf(int made) {
            return rows[made * WIDTH + MAX_POOLS];
        }

        void copyFrom(Checkpoints other) {
            count = other.count;
            System.arraycopy(other.rows, 0, rows, 0, MAX_CHECKPOINTS * WIDTH);
        }
    }
}
