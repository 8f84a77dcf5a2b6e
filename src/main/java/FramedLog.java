import java.util.NoSuchElementException;

/**
 * An append-only log that stores records as checksummed fragments in blocks of a fixed size, with one writer,
 * several readers, torn writes and damage.
 */
public final class FramedLog {
    public static final int NONE = -1;
    public static final int FULL = 1, FIRST = 2, MIDDLE = 3, LAST = 4;

    private static final int LOG_LIMIT = 400;
    private static final int INPUT_LIMIT = 600;
    private static final int RECORD_LIMIT = 40;
    private static final int READER_LIMIT = 4;
    private static final int NAME_LIMIT = 4;
    private static final int READ_LIMIT = 20;
    private static final int UNDO_LIMIT = 8;
    private static final int SLOT_LIMIT = 2;
    private static final int SMALLEST_BLOCK = 8;
    private static final int LARGEST_BLOCK = 32;
    private static final int LARGEST_BYTE = 255;
    private static final int HEADER = 3;
    private static final int CHECKSUM_DIVISOR = 251;

    private static final String OPENING_TEXT =
            "block 16;record hem;record longthreadofwool;reader ada;reader ben;record knot;record abc;read ada 2;damage 42 3;";

    private final Bytes input = new Bytes(INPUT_LIMIT);
    private final Bytes output = new Bytes(LOG_LIMIT);
    private final State state = new State();
    private final Log probe = new Log();
    private final Search search = new Search();
    private final Census census = new Census();
    private final Writer writer = new Writer();
    private final Compaction compaction = new Compaction();
    private final Parser parser = new Parser(input);
    private final History history = new History();
    private final State[] slots = new State[SLOT_LIMIT];
    private int lastError;
    private int lastErrorPosition = NONE;

    public FramedLog() {
        input.addText(OPENING_TEXT);
        if (parser.run()) {
            state.copyFrom(parser.result);
        }
        input.clear();
    }

    public int appendInput(int a, int b, int c, int d, int e) throws IllegalStateException {
        if (input.length + 20 > INPUT_LIMIT) {
            throw new IllegalStateException("the input buffer is full");
        }
        addFourBytes(a);
        addFourBytes(b);
        addFourBytes(c);
        addFourBytes(d);
        addFourBytes(e);
        return input.length;
    }

    public int truncateInput(int length) throws IllegalArgumentException {
        if (length < 0 || length > input.length) {
            throw new IllegalArgumentException("the length is out of range");
        }
        input.length = length;
        return length;
    }

    public int load() throws IllegalArgumentException {
        boolean right = parser.run();
        input.clear();
        lastError = parser.error;
        lastErrorPosition = right ? NONE : parser.position();
        if (!right) {
            throw new IllegalArgumentException("the text has an error");
        }
        history.remember(state);
        state.copyFrom(parser.result);
        return state.log.length;
    }

    public int errorCode() {
        return lastError;
    }

    public int errorPosition() {
        return lastErrorPosition;
    }

    public int blockSize() {
        return state.log.sizeOfBlock;
    }

    public int logLength() {
        return state.log.length;
    }

    public int blockCount() {
        return state.log.blocks();
    }

    public int logByte(int offset) throws IndexOutOfBoundsException {
        requireOffset(offset);
        return state.log.at(offset);
    }

    public int writtenRecords() {
        return state.written;
    }

    public int readerCount() {
        return state.readersUsed;
    }

    public int readerNameByte(int reader, int position) throws IndexOutOfBoundsException, NoSuchElementException {
        Bytes name = requireReader(reader).name;
        if (!name.holds(position)) {
            throw new NoSuchElementException("the name has no such position");
        }
        return name.at(position);
    }

    public int readerOffset(int reader) throws IndexOutOfBoundsException {
        return requireReader(reader).offset;
    }

    public int recordsRead(int reader) throws IndexOutOfBoundsException {
        return requireReader(reader).records;
    }

    public int damageProblems(int reader) throws IndexOutOfBoundsException {
        return requireReader(reader).damages;
    }

    public int incompleteProblems(int reader) throws IndexOutOfBoundsException {
        return requireReader(reader).incompletes;
    }

    public int orphanProblems(int reader) throws IndexOutOfBoundsException {
        return requireReader(reader).orphans;
    }

    public boolean isFragmentStart(int offset) throws IndexOutOfBoundsException {
        requireOffset(offset);
        return state.log.startsFragment(offset);
    }

    public int fragmentType(int offset) throws IllegalArgumentException {
        requireFragment(offset);
        return state.log.typeAt(offset);
    }

    public int fragmentLength(int offset) throws IllegalArgumentException {
        requireFragment(offset);
        return state.log.payloadAt(offset);
    }

    public int expectedChecksum(int offset) throws IllegalArgumentException {
        requireFragment(offset);
        return state.log.dueChecksum(offset);
    }

    public boolean isChecksumRight(int offset) throws IllegalArgumentException {
        requireFragment(offset);
        return state.log.hasDueChecksum(offset);
    }

    public int fragmentCount() {
        int count = 0;
        int at = state.log.fragmentFrom(0);
        for (int step = 0; step < LOG_LIMIT && at != NONE; step++) {
            count++;
            at = state.log.fragmentFrom(state.log.fragmentEnd(at));
        }
        return count;
    }

    public int wrongChecksums() {
        int count = 0;
        int at = state.log.wrongFrom(0);
        for (int step = 0; step < LOG_LIMIT && at != NONE; step++) {
            count++;
            at = state.log.wrongFrom(state.log.fragmentEnd(at));
        }
        return count;
    }

    public int firstWrongChecksum() {
        return state.log.wrongFrom(0);
    }

    public int bytesAfterFragments(int block) throws IndexOutOfBoundsException {
        requireBlock(block);
        return state.log.bytesLeftOver(block);
    }

    public int recordCount() {
        return search.countFrom(state.log, 0);
    }

    public int recordStart(int record) throws IndexOutOfBoundsException {
        requireRecord(record);
        return search.start();
    }

    public int recordLength(int record) throws IndexOutOfBoundsException {
        requireRecord(record);
        return search.length;
    }

    public int recordByte(int record, int position) throws IndexOutOfBoundsException, NoSuchElementException {
        requireRecord(record);
        if (position < 0 || position >= search.length) {
            throw new NoSuchElementException("the record has no such position");
        }
        return state.log.at(search.offsetOf(state.log, position));
    }

    public int recordFragments(int record) throws IndexOutOfBoundsException {
        requireRecord(record);
        return search.fragments;
    }

    public int longestRecord() {
        census.take(state.log, search);
        return census.longest;
    }

    public int readableBytes() {
        census.take(state.log, search);
        return census.readable;
    }

    public int paddingBytes() {
        census.take(state.log, search);
        return census.padding;
    }

    public int unreadableBytes() {
        census.take(state.log, search);
        return state.log.length - census.readable - census.padding;
    }

    public float sharePayload() {
        if (state.log.length == 0) {
            return 0.0f;
        }
        census.take(state.log, search);
        return (float) census.payload / (float) state.log.length;
    }

    public double meanRecordLength() {
        census.take(state.log, search);
        if (census.records == 0) {
            return 0.0;
        }
        return (double) census.payload / (double) census.records;
    }

    public int recordsLeft(int reader) throws IndexOutOfBoundsException {
        return search.countFrom(state.log, requireReader(reader).offset);
    }

    public int nextRecordLength(int reader) throws IndexOutOfBoundsException {
        return findFor(requireReader(reader)) ? search.length : NONE;
    }

    public int nextRecordStart(int reader) throws IndexOutOfBoundsException {
        return findFor(requireReader(reader)) ? search.start() : NONE;
    }

    public int offsetAfterNext(int reader) throws IndexOutOfBoundsException {
        return findFor(requireReader(reader)) ? search.end : NONE;
    }

    public int problemsBeforeNext(int reader) throws IndexOutOfBoundsException {
        return findFor(requireReader(reader)) ? search.damages + search.incompletes + search.orphans : NONE;
    }

    public int slowestReader() {
        return state.readerFurthestBack();
    }

    public int writeCost(int length) throws IllegalArgumentException {
        requireRecordLength(length);
        writer.plan(state.log, length);
        return writer.end - state.log.length;
    }

    public int fragmentsFor(int length) throws IllegalArgumentException {
        requireRecordLength(length);
        writer.plan(state.log, length);
        return writer.fragments;
    }

    public int recordsIfDamaged(int offset) throws IndexOutOfBoundsException {
        requireOffset(offset);
        probe.copyFrom(state.log);
        probe.combine(offset, LARGEST_BYTE);
        return search.countFrom(probe, 0);
    }

    public int weakestOffset() {
        probe.copyFrom(state.log);
        int weakest = NONE;
        int fewest = LOG_LIMIT;
        for (int offset = 0; offset < state.log.length && fewest > 0; offset++) {
            probe.combine(offset, LARGEST_BYTE);
            int records = search.countFrom(probe, 0);
            probe.combine(offset, LARGEST_BYTE);
            if (records < fewest) {
                fewest = records;
                weakest = offset;
            }
        }
        return weakest;
    }

    public int recordsIfTruncated(int length) throws IllegalArgumentException {
        requireLogLength(length);
        probe.copyFrom(state.log);
        probe.length = length;
        return search.countFrom(probe, 0);
    }

    public int writeRecord() throws IllegalArgumentException, IllegalStateException {
        requireRecordLength(input.length);
        writer.plan(state.log, input.length);
        if (writer.end > LOG_LIMIT) {
            throw new IllegalStateException("the record does not fit into the log");
        }
        history.remember(state);
        writer.write(state.log, input, 0, input.length);
        state.written++;
        input.clear();
        return writer.fragments;
    }

    public int addReader() throws IllegalArgumentException, IllegalStateException {
        if (!isName(input)) {
            throw new IllegalArgumentException("the input buffer is not a name");
        }
        if (state.readersUsed >= READER_LIMIT || state.readerNamed(input, 0, input.length) != null) {
            throw new IllegalStateException("the reader cannot be added");
        }
        history.remember(state);
        state.enlist(input, 0, input.length);
        input.clear();
        return state.readersUsed - 1;
    }

    public int read(int reader) throws IndexOutOfBoundsException, NoSuchElementException {
        Reader reading = requireReader(reader);
        if (!findFor(reading)) {
            throw new NoSuchElementException("there is no next record");
        }
        history.remember(state);
        search.copyRecord(state.log, output);
        reading.accept(search);
        return output.length;
    }

    public int seek(int reader, int block) throws IndexOutOfBoundsException, IllegalArgumentException {
        Reader moved = requireReader(reader);
        if (block < 0 || block > state.log.blocks()) {
            throw new IllegalArgumentException("the block is out of range");
        }
        history.remember(state);
        moved.offset = Math.min(block * state.log.sizeOfBlock, state.log.length);
        return moved.offset;
    }

    public int truncateLog(int length) throws IllegalArgumentException {
        requireLogLength(length);
        history.remember(state);
        int removed = state.log.length - length;
        state.cutTo(length);
        return removed;
    }

    public int damage(int offset, int mask) throws IndexOutOfBoundsException, IllegalArgumentException {
        requireOffset(offset);
        if (mask < 1 || mask > LARGEST_BYTE) {
            throw new IllegalArgumentException("the mask is out of range");
        }
        history.remember(state);
        state.log.combine(offset, mask);
        return state.log.at(offset);
    }

    public int repair(int offset) throws IllegalArgumentException {
        requireFragment(offset);
        history.remember(state);
        int previous = state.log.at(offset);
        state.log.put(offset, state.log.dueChecksum(offset));
        return previous;
    }

    public int dropBlocks(int blocks) throws IllegalArgumentException {
        if (blocks < 1 || blocks > state.log.fullBlocks()) {
            throw new IllegalArgumentException("the number of blocks is out of range");
        }
        history.remember(state);
        state.dropBytes(blocks * state.log.sizeOfBlock);
        return state.log.length;
    }

    public int compact() throws IllegalStateException {
        if (!compaction.run(state.log, search, writer)) {
            throw new IllegalStateException("the compacted log would be too long");
        }
        history.remember(state);
        int before = state.log.length;
        state.replaceLog(compaction);
        return before - state.log.length;
    }

    public int describeBlock(int block) throws IndexOutOfBoundsException {
        requireBlock(block);
        Log log = state.log;
        output.clear();
        int at = log.blockStart(block);
        int blockEnd = log.blockEnd(at);
        for (int step = 0; step < LARGEST_BLOCK && at < blockEnd && log.holdsFragment(at); step++) {
            describeFragment(log, at);
            at = log.fragmentEnd(at);
        }
        describeRest(log.bytesLeftOver(block));
        return output.length;
    }

    public int outputByte(int position) throws NoSuchElementException {
        if (!output.holds(position)) {
            throw new NoSuchElementException("the output has no such position");
        }
        return output.at(position);
    }

    public int save(int slot) throws IndexOutOfBoundsException {
        requireSlot(slot);
        State copy = slots[slot];
        if (copy == null) {
            copy = new State();
            slots[slot] = copy;
        }
        copy.copyFrom(state);
        return state.log.length;
    }

    public int restore(int slot) throws IndexOutOfBoundsException, IllegalStateException {
        requireSlot(slot);
        State copy = slots[slot];
        if (copy == null) {
            throw new IllegalStateException("the slot is empty");
        }
        history.remember(state);
        state.copyFrom(copy);
        return state.log.length;
    }

    public int undo() throws IllegalStateException {
        if (!history.takeBack(state)) {
            throw new IllegalStateException("no call is remembered");
        }
        return history.depth;
    }

    public int undoDepth() {
        return history.depth;
    }

    private void addFourBytes(int four) {
        input.add((four >>> 24) & LARGEST_BYTE);
        input.add((four >>> 16) & LARGEST_BYTE);
        input.add((four >>> 8) & LARGEST_BYTE);
        input.add(four & LARGEST_BYTE);
    }

    private void requireOffset(int offset) {
        if (!state.log.holds(offset)) {
            throw new IndexOutOfBoundsException("the offset is not inside the log");
        }
    }

    private void requireBlock(int block) {
        if (block < 0 || block >= state.log.blocks()) {
            throw new IndexOutOfBoundsException("the block does not exist");
        }
    }

    private void requireSlot(int slot) {
        if (slot < 0 || slot >= slots.length) {
            throw new IndexOutOfBoundsException("the slot does not exist");
        }
    }

    private void requireFragment(int offset) {
        if (!state.log.startsFragment(offset)) {
            throw new IllegalArgumentException("no fragment starts at the offset");
        }
    }

    private void requireLogLength(int length) {
        if (length < 0 || length > state.log.length) {
            throw new IllegalArgumentException("the length is out of range");
        }
    }

    private void requireRecordLength(int length) {
        if (length < 1 || length > RECORD_LIMIT) {
            throw new IllegalArgumentException("a record has 1 to 40 bytes");
        }
    }

    private Reader requireReader(int reader) {
        Reader found = state.readerAt(reader);
        if (found == null) {
            throw new IndexOutOfBoundsException("the reader does not exist");
        }
        return found;
    }

    /** Leaves the search at the record, so that the caller asks the search for the rest. */
    private void requireRecord(int record) {
        if (!search.findNumber(state.log, record)) {
            throw new IndexOutOfBoundsException("the record does not exist");
        }
    }

    private boolean findFor(Reader reader) {
        return search.findNext(state.log, reader.offset);
    }

    private static boolean isName(Bytes bytes) {
        boolean letters = bytes.length >= 1 && bytes.length <= NAME_LIMIT;
        for (int i = 0; i < bytes.length && letters; i++) {
            letters = Tokens.kindOf(bytes.at(i)) == Tokens.WORD;
        }
        return letters;
    }

    private void describeFragment(Log log, int at) {
        if (output.length > 0) {
            output.add(' ');
        }
        output.add(letterOf(log.typeAt(at)));
        output.addNumber(log.payloadAt(at));
        if (!log.hasDueChecksum(at)) {
            output.add('!');
        }
    }

    private void describeRest(int bytes) {
        if (bytes <= 0) {
            return;
        }
        if (output.length > 0) {
            output.add(' ');
        }
        output.add('+');
        output.addNumber(bytes);
    }

    private static char letterOf(int type) {
        switch (type) {
            case FULL:
                return 'F';
            case FIRST:
                return 'I';
            case MIDDLE:
                return 'M';
            default:
                return 'L';
        }
    }

    /** A row of bytes with a fixed room; what does not fit is left out. */
    private static final class Bytes {
        private final int[] row;
        int length;

        Bytes(int room) {
            row = new int[Math.max(room, 0)];
        }

        boolean holds(int position) {
            return position >= 0 && position < length;
        }

        /** NONE behind the end, so that a text can be looked at without asking for its length. */
        int at(int position) {
            return position >= 0 && position < length && position < row.length ? row[position] : NONE;
        }

        void clear() {
            length = 0;
        }

        void add(int value) {
            if (length >= 0 && length < row.length) {
                row[length] = value;
                length++;
            }
        }

        void addText(String text) {
            for (int i = 0; i < text.length(); i++) {
                add(text.charAt(i));
            }
        }

        /** Two digits are enough: no number of a description is greater than the largest block. */
        void addNumber(int number) {
            if (number >= 10) {
                add('0' + number / 10);
            }
            add('0' + number % 10);
        }

        void setTo(Bytes source, int from, int count) {
            clear();
            for (int i = 0; i < count; i++) {
                add(source.at(from + i));
            }
        }

        boolean equalsPart(Bytes source, int from, int count) {
            boolean same = count == length;
            for (int i = 0; i < length && same; i++) {
                same = at(i) == source.at(from + i);
            }
            return same;
        }
    }

    /** The bytes in their blocks, and the fragments that they form. */
    private static final class Log {
        private final int[] row = new int[LOG_LIMIT];
        int length;
        int sizeOfBlock = SMALLEST_BLOCK;

        void begin(int newSizeOfBlock) {
            sizeOfBlock = newSizeOfBlock;
            length = 0;
        }

        void copyFrom(Log other) {
            sizeOfBlock = other.sizeOfBlock;
            length = other.length;
            for (int i = 0; i < row.length && i < other.row.length && i < length; i++) {
                row[i] = other.row[i];
            }
        }

        boolean holds(int offset) {
            return offset >= 0 && offset < length;
        }

        int at(int offset) {
            return offset >= 0 && offset < length && offset < row.length ? row[offset] : 0;
        }

        void put(int offset, int value) {
            if (offset >= 0 && offset < length && offset < row.length) {
                row[offset] = value;
            }
        }

        void combine(int offset, int mask) {
            put(offset, at(offset) ^ mask);
        }

        void add(int value) {
            if (length >= 0 && length < row.length) {
                row[length] = value;
                length++;
            }
        }

        void dropFirst(int count) {
            for (int i = 0; i + count < length; i++) {
                put(i, at(i + count));
            }
            length = Math.max(length - count, 0);
        }

        int fullBlocks() {
            return sizeOfBlock < 1 ? 0 : length / sizeOfBlock;
        }

        int blocks() {
            return sizeOfBlock < 1 ? 0 : (length + sizeOfBlock - 1) / sizeOfBlock;
        }

        int blockStart(int block) {
            return block * sizeOfBlock;
        }

        int blockEnd(int offset) {
            return sizeOfBlock < 1 ? offset : (offset / sizeOfBlock + 1) * sizeOfBlock;
        }

        int afterPadding(int offset) {
            int end = blockEnd(offset);
            return end - offset < HEADER ? end : offset;
        }

        int payloadAt(int offset) {
            return at(offset + 1);
        }

        int typeAt(int offset) {
            return at(offset + 2);
        }

        int fragmentEnd(int offset) {
            return offset + HEADER + at(offset + 1);
        }

        /** The header must be inside the log. */
        boolean isFramed(int offset) {
            int type = at(offset + 2);
            return type >= FULL && type <= LAST && fragmentEnd(offset) <= blockEnd(offset);
        }

        boolean holdsFragment(int offset) {
            return blockEnd(offset) - offset >= HEADER && offset + HEADER <= length
                    && isFramed(offset) && fragmentEnd(offset) <= length;
        }

        boolean startsFragment(int offset) {
            if (!holds(offset) || sizeOfBlock < 1) {
                return false;
            }
            int at = blockStart(offset / sizeOfBlock);
            for (int step = 0; step < LARGEST_BLOCK && at < offset && holdsFragment(at); step++) {
                at = fragmentEnd(at);
            }
            return at == offset && holdsFragment(at);
        }

        /** The first fragment from a place at which a block starts or a fragment ends; NONE behind the last one. */
        int fragmentFrom(int place) {
            int at = place;
            for (int step = 0; step < LOG_LIMIT && at < length; step++) {
                if (holdsFragment(at)) {
                    return at;
                }
                at = blockEnd(at);
            }
            return NONE;
        }

        int wrongFrom(int place) {
            int at = fragmentFrom(place);
            for (int step = 0; step < LOG_LIMIT && at != NONE && hasDueChecksum(at); step++) {
                at = fragmentFrom(fragmentEnd(at));
            }
            return at;
        }

        int dueChecksum(int offset) {
            int payload = at(offset + 1);
            int sum = 7 * at(offset + 2) + 3 * payload;
            int before = offset + HEADER - 1;
            for (int position = 1; position <= payload; position++) {
                sum += position * at(before + position);
            }
            return sum % CHECKSUM_DIVISOR;
        }

        boolean hasDueChecksum(int offset) {
            return at(offset) == dueChecksum(offset);
        }

        int bytesLeftOver(int block) {
            int at = blockStart(block);
            int end = blockEnd(at);
            for (int step = 0; step < LARGEST_BLOCK && at < end && holdsFragment(at); step++) {
                at = fragmentEnd(at);
            }
            return Math.min(end, length) - at;
        }

        /** The bytes where no header fits into the block any more. */
        int bytesInBlockTails() {
            int tail = HEADER - 1;
            int inLastBlock = length - blockStart(fullBlocks());
            return fullBlocks() * tail + Math.max(inLastBlock - (sizeOfBlock - tail), 0);
        }
    }

    /** Cuts records into fragments, and writes them at the end of a log. */
    private static final class Writer {
        int end;
        int fragments;
        private int left;
        private int start;
        private int part;

        /** Leaves the number of fragments and the end of the log as they would be after the writing. */
        void plan(Log log, int count) {
            begin(log, count);
            for (int step = 0; step < LOG_LIMIT && hasMore(); step++) {
                cutNext(log);
            }
        }

        void write(Log log, Bytes source, int from, int count) {
            begin(log, count);
            for (int step = 0; step < LOG_LIMIT && hasMore(); step++) {
                int done = count - left;
                cutNext(log);
                pad(log);
                addFragment(log, source, from + done);
            }
        }

        private void begin(Log log, int count) {
            end = log.length;
            fragments = 0;
            left = count;
        }

        private boolean hasMore() {
            return fragments == 0 || left > 0;
        }

        private void cutNext(Log log) {
            start = log.afterPadding(end);
            part = Math.min(left, log.blockEnd(start) - start - HEADER);
            end = start + HEADER + part;
            left -= part;
            fragments++;
        }

        private void pad(Log log) {
            for (int at = log.length; at < start; at++) {
                log.add(0);
            }
        }

        private void addFragment(Log log, Bytes source, int from) {
            int header = log.length;
            log.add(0);
            log.add(part);
            log.add(typeOfPart());
            for (int i = 0; i < part; i++) {
                log.add(source.at(from + i));
            }
            log.put(header, log.dueChecksum(header));
        }

        private int typeOfPart() {
            if (fragments == 1) {
                return left == 0 ? FULL : FIRST;
            }
            return left == 0 ? LAST : MIDDLE;
        }
    }

    /** The search for the next record, and the record that it found last. */
    private static final class Search {
        /** A fragment has at least a header, so no record has more. */
        private final int[] parts = new int[LOG_LIMIT / HEADER + 1];
        int fragments;
        int length;
        int end;
        int damages;
        int incompletes;
        int orphans;
        private boolean started;

        boolean findNext(Log log, int from) {
            damages = 0;
            incompletes = 0;
            orphans = 0;
            drop();
            end = from;
            for (int step = 0; step < LOG_LIMIT; step++) {
                end = log.afterPadding(end);
                if (end + HEADER > log.length) {
                    return false;
                }
                boolean framed = log.isFramed(end);
                if (framed && log.fragmentEnd(end) > log.length) {
                    return false;
                }
                if (!framed || !log.hasDueChecksum(end)) {
                    damages++;
                    drop();
                    end = log.blockEnd(end);
                } else if (takeFragment(log)) {
                    return true;
                }
            }
            return false;
        }

        private void drop() {
            started = false;
            fragments = 0;
            length = 0;
        }

        /** Whether the fragment completes a record. */
        private boolean takeFragment(Log log) {
            int at = end;
            int type = log.typeAt(at);
            boolean opens = type == FULL || type == FIRST;
            end = log.fragmentEnd(at);
            if (opens && started) {
                incompletes++;
                drop();
            }
            if (!opens && !started) {
                orphans++;
                return false;
            }
            started = true;
            collect(at, log.payloadAt(at));
            return type == FULL || type == LAST;
        }

        private void collect(int at, int payload) {
            if (fragments >= 0 && fragments < parts.length) {
                parts[fragments] = at;
                fragments++;
                length += payload;
            }
        }

        int partAt(int index) {
            return index >= 0 && index < fragments && index < parts.length ? parts[index] : NONE;
        }

        int start() {
            return partAt(0);
        }

        int countFrom(Log log, int from) {
            int count = 0;
            int at = from;
            while (count < LOG_LIMIT && findNext(log, at)) {
                count++;
                at = end;
            }
            return count;
        }

        boolean findNumber(Log log, int number) {
            if (number < 0 || number >= LOG_LIMIT) {
                return false;
            }
            boolean found = findNext(log, 0);
            for (int i = 0; i < number && found; i++) {
                found = findNext(log, end);
            }
            return found;
        }

        /** Where in the log the byte at a position of the found record is. */
        int offsetOf(Log log, int position) {
            int before = 0;
            for (int i = 0; i < fragments; i++) {
                int at = partAt(i);
                int payload = log.payloadAt(at);
                if (position < before + payload) {
                    return at + HEADER + position - before;
                }
                before += payload;
            }
            return NONE;
        }

        void copyRecord(Log log, Bytes target) {
            target.clear();
            for (int i = 0; i < fragments; i++) {
                int from = partAt(i) + HEADER;
                int to = log.fragmentEnd(partAt(i));
                for (int at = from; at < to; at++) {
                    target.add(log.at(at));
                }
            }
        }
    }

    /** Sums over the readable records of a log. */
    private static final class Census {
        int records;
        int payload;
        int readable;
        int padding;
        int longest;
        private int longestLength;

        void take(Log log, Search search) {
            records = 0;
            payload = 0;
            readable = 0;
            padding = log.bytesInBlockTails();
            longest = NONE;
            longestLength = NONE;
            int at = 0;
            for (int step = 0; step < LOG_LIMIT && search.findNext(log, at); step++) {
                addRecord(log, search);
                at = search.end;
            }
        }

        private void addRecord(Log log, Search search) {
            if (search.length > longestLength) {
                longest = records;
                longestLength = search.length;
            }
            records++;
            payload += search.length;
            readable += search.length + HEADER * search.fragments;
            for (int i = 0; i < search.fragments; i++) {
                padding -= bytesInTail(log, search.partAt(i));
            }
        }

        private static int bytesInTail(Log log, int fragment) {
            int tail = log.blockEnd(fragment) - (HEADER - 1);
            return Math.max(log.fragmentEnd(fragment) - tail, 0);
        }
    }

    /** The readable records of a log, written anew, and where their starts have moved. */
    private static final class Compaction {
        final Log target = new Log();
        private final Bytes copy = new Bytes(LOG_LIMIT);
        private final int[] oldStarts = new int[LOG_LIMIT];
        private final int[] newStarts = new int[LOG_LIMIT];
        private int records;

        /** False if the records do not fit. */
        boolean run(Log source, Search search, Writer writer) {
            target.begin(source.sizeOfBlock);
            records = 0;
            int at = 0;
            for (int step = 0; step < LOG_LIMIT && search.findNext(source, at); step++) {
                at = search.end;
                writer.plan(target, search.length);
                if (writer.end > LOG_LIMIT) {
                    return false;
                }
                noteStarts(search.start(), target.afterPadding(target.length));
                search.copyRecord(source, copy);
                writer.write(target, copy, 0, copy.length);
            }
            return true;
        }

        private void noteStarts(int oldStart, int newStart) {
            if (records >= 0 && records < oldStarts.length && records < newStarts.length) {
                oldStarts[records] = oldStart;
                newStarts[records] = newStart;
                records++;
            }
        }

        int movedOffset(int oldOffset) {
            for (int i = 0; i < records && i < oldStarts.length && i < newStarts.length; i++) {
                if (oldStarts[i] >= oldOffset) {
                    return newStarts[i];
                }
            }
            return target.length;
        }
    }

    private static final class Reader {
        final Bytes name = new Bytes(NAME_LIMIT);
        int offset;
        int records;
        int damages;
        int incompletes;
        int orphans;

        void begin(Bytes text, int from, int count) {
            name.setTo(text, from, count);
            offset = 0;
            records = 0;
            damages = 0;
            incompletes = 0;
            orphans = 0;
        }

        void copyFrom(Reader other) {
            name.setTo(other.name, 0, other.name.length);
            offset = other.offset;
            records = other.records;
            damages = other.damages;
            incompletes = other.incompletes;
            orphans = other.orphans;
        }

        void accept(Search found) {
            offset = found.end;
            records++;
            damages += found.damages;
            incompletes += found.incompletes;
            orphans += found.orphans;
        }
    }

    /** What undo and the slots keep. */
    private static final class State {
        final Log log = new Log();
        private final Reader[] readers = new Reader[READER_LIMIT];
        int readersUsed;
        int written;

        State() {
            for (int i = 0; i < readers.length; i++) {
                readers[i] = new Reader();
            }
        }

        void begin(int sizeOfBlock) {
            log.begin(sizeOfBlock);
            readersUsed = 0;
            written = 0;
        }

        void copyFrom(State other) {
            log.copyFrom(other.log);
            readersUsed = other.readersUsed;
            written = other.written;
            for (int i = 0; i < readersUsed; i++) {
                Reader mine = readerAt(i);
                Reader theirs = other.readerAt(i);
                if (mine != null && theirs != null) {
                    mine.copyFrom(theirs);
                }
            }
        }

        /** Null if the reader does not exist. */
        Reader readerAt(int number) {
            return number >= 0 && number < readersUsed && number < readers.length ? readers[number] : null;
        }

        /** Null if no reader has the name. */
        Reader readerNamed(Bytes text, int from, int count) {
            for (int i = 0; i < readersUsed; i++) {
                Reader reader = readerAt(i);
                if (reader != null && reader.name.equalsPart(text, from, count)) {
                    return reader;
                }
            }
            return null;
        }

        void enlist(Bytes text, int from, int count) {
            readersUsed = Math.min(readersUsed + 1, READER_LIMIT);
            Reader added = readerAt(readersUsed - 1);
            if (added != null) {
                added.begin(text, from, count);
            }
        }

        int readerFurthestBack() {
            int slowest = NONE;
            int smallest = LOG_LIMIT + 1;
            for (int i = 0; i < readersUsed; i++) {
                Reader reader = readerAt(i);
                if (reader != null && reader.offset < smallest) {
                    slowest = i;
                    smallest = reader.offset;
                }
            }
            return slowest;
        }

        void cutTo(int length) {
            log.length = length;
            for (int i = 0; i < readersUsed; i++) {
                Reader reader = readerAt(i);
                if (reader != null) {
                    reader.offset = Math.min(reader.offset, length);
                }
            }
        }

        void dropBytes(int count) {
            log.dropFirst(count);
            for (int i = 0; i < readersUsed; i++) {
                Reader reader = readerAt(i);
                if (reader != null) {
                    reader.offset = Math.max(reader.offset - count, 0);
                }
            }
        }

        void replaceLog(Compaction compaction) {
            log.copyFrom(compaction.target);
            for (int i = 0; i < readersUsed; i++) {
                Reader reader = readerAt(i);
                if (reader != null) {
                    reader.offset = compaction.movedOffset(reader.offset);
                }
            }
        }
    }

    /** The states before the latest undoable calls. */
    private static final class History {
        private final State[] past = new State[UNDO_LIMIT];
        private int next;
        int depth;

        void remember(State state) {
            if (next < 0 || next >= past.length) {
                next = 0;
            }
            State copy = past[next];
            if (copy == null) {
                copy = new State();
                past[next] = copy;
            }
            copy.copyFrom(state);
            next++;
            depth = Math.min(depth + 1, UNDO_LIMIT);
        }

        boolean takeBack(State state) {
            int latest = (next < 1 ? UNDO_LIMIT : next) - 1;
            if (depth < 1 || latest >= past.length) {
                return false;
            }
            State copy = past[latest];
            if (copy == null) {
                return false;
            }
            state.copyFrom(copy);
            next = latest;
            depth--;
            return true;
        }
    }

    /** The tokens of a text, from left to right. */
    private static final class Tokens {
        static final int END = 0, BLANK = 1, WORD = 2, NUMBER = 3, SIGN = 4;
        /** Above all ranges of the language, so that longer numbers need not be told apart. */
        private static final int LARGEST_VALUE = 1000000;

        final Bytes text;
        int kind;
        int start;
        int value;
        private int end;

        Tokens(Bytes text) {
            this.text = text;
        }

        void begin() {
            end = 0;
        }

        void advance() {
            start = endOfRun(end, BLANK);
            kind = kindOf(text.at(start));
            if (kind == WORD || kind == NUMBER) {
                end = endOfRun(start, kind);
            } else {
                end = Math.min(start + 1, text.length);
            }
            value = kind == NUMBER ? numberOfToken() : 0;
        }

        int width() {
            return end - start;
        }

        boolean isWord(String word) {
            boolean same = kind == WORD && word.length() == width();
            for (int i = 0; i < word.length() && same; i++) {
                same = text.at(start + i) == word.charAt(i);
            }
            return same;
        }

        boolean isSemicolon() {
            return kind == SIGN && text.at(start) == ';';
        }

        private int endOfRun(int from, int wanted) {
            int at = from;
            while (at < text.length && kindOf(text.at(at)) == wanted) {
                at++;
            }
            return at;
        }

        private int numberOfToken() {
            int number = 0;
            for (int at = start; at < end; at++) {
                number = Math.min(number * 10 + text.at(at) - '0', LARGEST_VALUE);
            }
            return number;
        }

        static int kindOf(int sign) {
            if (sign == NONE) {
                return END;
            }
            if (sign == ' ' || sign == '\n') {
                return BLANK;
            }
            if (sign >= 'a' && sign <= 'z') {
                return WORD;
            }
            return sign >= '0' && sign <= '9' ? NUMBER : SIGN;
        }
    }

    /** Executes a text on a state of its own, so that an error leaves the state of the log as it was. */
    private static final class Parser {
        private static final int NOT_ALLOWED = 1;
        private static final int OUT_OF_RANGE = 2;
        private static final int NAME_TAKEN = 3;
        private static final int NAME_UNKNOWN = 4;
        private static final int NO_ROOM = 5;

        final State result = new State();
        int error;
        private final Tokens tokens;
        private final Search search = new Search();
        private final Writer writer = new Writer();

        Parser(Bytes text) {
            tokens = new Tokens(text);
        }

        int position() {
            return tokens.start;
        }

        boolean run() {
            error = 0;
            tokens.begin();
            boolean right = blockStatement();
            for (int step = 0; step < INPUT_LIMIT && right; step++) {
                tokens.advance();
                if (tokens.kind == Tokens.END) {
                    return true;
                } else if (tokens.isWord("record")) {
                    right = recordStatement();
                } else if (tokens.isWord("reader")) {
                    right = readerStatement();
                } else if (tokens.isWord("read")) {
                    right = readStatement();
                } else if (tokens.isWord("cut")) {
                    right = cutStatement();
                } else if (tokens.isWord("damage")) {
                    right = damageStatement();
                } else {
                    right = fail(NOT_ALLOWED);
                }
            }
            return right;
        }

        private boolean fail(int code) {
            error = code;
            return false;
        }

        private boolean blockStatement() {
            tokens.advance();
            if (!tokens.isWord("block")) {
                return fail(NOT_ALLOWED);
            }
            if (!takeNumber(SMALLEST_BLOCK, LARGEST_BLOCK)) {
                return false;
            }
            result.begin(tokens.value);
            return takeSemicolon();
        }

        private boolean takeWord() {
            tokens.advance();
            return tokens.kind == Tokens.WORD || fail(NOT_ALLOWED);
        }

        private boolean takeNumber(int smallest, int largest) {
            tokens.advance();
            if (tokens.kind != Tokens.NUMBER) {
                return fail(NOT_ALLOWED);
            }
            return tokens.value >= smallest && tokens.value <= largest || fail(OUT_OF_RANGE);
        }

        private boolean takeSemicolon() {
            tokens.advance();
            return tokens.isSemicolon() || fail(NOT_ALLOWED);
        }

        private boolean recordStatement() {
            if (!takeWord()) {
                return false;
            }
            int from = tokens.start;
            int count = tokens.width();
            if (count > RECORD_LIMIT) {
                return fail(OUT_OF_RANGE);
            }
            if (!takeSemicolon()) {
                return false;
            }
            writer.plan(result.log, count);
            if (writer.end > LOG_LIMIT) {
                return fail(NO_ROOM);
            }
            writer.write(result.log, tokens.text, from, count);
            result.written++;
            return true;
        }

        private boolean readerStatement() {
            if (result.readersUsed >= READER_LIMIT) {
                return fail(NO_ROOM);
            }
            if (!takeWord()) {
                return false;
            }
            if (tokens.width() > NAME_LIMIT) {
                return fail(OUT_OF_RANGE);
            }
            if (result.readerNamed(tokens.text, tokens.start, tokens.width()) != null) {
                return fail(NAME_TAKEN);
            }
            result.enlist(tokens.text, tokens.start, tokens.width());
            return takeSemicolon();
        }

        private boolean readStatement() {
            if (!takeWord()) {
                return false;
            }
            Reader reader = result.readerNamed(tokens.text, tokens.start, tokens.width());
            if (reader == null) {
                return fail(NAME_UNKNOWN);
            }
            if (!takeNumber(0, READ_LIMIT)) {
                return false;
            }
            int wanted = tokens.value;
            for (int i = 0; i < wanted && search.findNext(result.log, reader.offset); i++) {
                reader.accept(search);
            }
            return takeSemicolon();
        }

        private boolean cutStatement() {
            if (!takeNumber(0, result.log.length)) {
                return false;
            }
            result.cutTo(tokens.value);
            return takeSemicolon();
        }

        private boolean damageStatement() {
            if (!takeNumber(0, result.log.length - 1)) {
                return false;
            }
            int offset = tokens.value;
            if (!takeNumber(1, LARGEST_BYTE)) {
                return false;
            }
            result.log.combine(offset, tokens.value);
            return takeSemicolon();
        }
    }
}
