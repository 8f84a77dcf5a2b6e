import java.util.ArrayList;
import java.util.LinkedHashMap;
import java.util.List;
import java.util.Map;

/**
 * What calls leave as it was: refused ones and questions all, the others what the document does not let them change;
 * and what undo brings back. All that an object holds is looked at before and after.
 */
public final class FramedLogRefusals extends Checks {
    /** The parts that a look can show. UNDONE is all states that undo can bring back, INPUT also the way load takes it. */
    private static final String NOW = "state", ERROR = "error", OUTPUT = "output", UNDONE = "remembered calls",
            SLOT0 = "slot 0", SLOT1 = "slot 1", INPUT = "input";
    private static final List<String> PARTS = List.of(NOW, ERROR, OUTPUT, UNDONE, SLOT0, SLOT1, INPUT);

    /** 13 bytes: a fragment at 0, padding at 6 and 7, and a fragment at 8. */
    private static final String SMALL = "block 8;record abc;record de;reader r;reader s;read r 1;";
    private static final String EMPTY = "block 8;";
    private static final String CROWDED = "block 8;record a;reader a;reader b;reader c;reader d;";

    private interface Given {
        Object call(FramedLog x, int given);
    }

    public static void main(String[] args) {
        input();
        load();
        offsets();
        readers();
        fragments();
        blocks();
        records();
        lengths();
        writeRecord();
        addReader();
        read();
        seekAndDamage();
        dropBlocks();
        output();
        slots();
        undo();
        firstListedException();
        questions();
        whatCallsLeaveAlone();
        undoable();
        notUndoable();
        tellTheEnd();
    }

    /** A log of this text with something in the error, the output, the slot 0, the input, and two remembered calls. */
    private static FramedLog busy(String text) {
        FramedLog x = loaded("block 9;record past;reader p;");
        x.save(0);
        x.describeBlock(0);
        type(x, text);
        x.load();
        type(x, "?");
        answer(x::load);
        type(x, "xyz");
        return x;
    }

    private static FramedLog busy(String text, String input) {
        FramedLog x = busy(text);
        type(x, input);
        return x;
    }

    /** A part of what an object holds; each look has a new object, because some looks change it. */
    private static String look(Make make, String part) {
        FramedLog x = make.make();
        switch (part) {
            case NOW:
                return all(x);
            case ERROR:
                return x.errorCode() + " at " + x.errorPosition();
            case OUTPUT:
                return wholeOutput(x);
            case UNDONE:
                return undone(make, x.undoDepth());
            case SLOT0:
                return answer(() -> x.restore(0)) + " " + all(x);
            case SLOT1:
                return answer(() -> x.restore(1)) + " " + all(x);
            default:
                return wholeInput(x) + ", loaded " + answer(() -> make.make().load());
        }
    }

    private static String wholeOutput(FramedLog x) {
        StringBuilder s = new StringBuilder();
        for (int i = 0; i <= 400; i++) {
            int position = i;
            Object got = answer(() -> x.outputByte(position));
            if (got == ELEMENT) return s.toString();
            s.append(got).append(' ');
        }
        return "endless";
    }

    private static String undone(Make make, int depth) {
        StringBuilder s = new StringBuilder().append(depth);
        for (int times = 1; times <= depth; times++) {
            FramedLog x = make.make();
            for (int i = 1; i <= times; i++) s.append(' ').append(answer(x::undo));
            s.append(": ").append(all(x)).append(", ");
        }
        FramedLog x = make.make();
        for (int i = 0; i < depth; i++) x.undo();
        return s.append(answer(x::undo)).toString();
    }

    /** The length, and as a record as many bytes as a record has. */
    private static String wholeInput(FramedLog x) {
        int length = inputLength(x);
        if (length == 0) return "0";
        x.truncateInput(Math.min(length, 40));
        x.truncateLog(0);
        x.writeRecord();
        return length + " " + record(x, 0);
    }

    private static int inputLength(FramedLog x) {
        Object longer = answer(() -> x.appendInput(0, 0, 0, 0, 0));
        if (longer instanceof Integer) return (Integer) longer - 20;
        for (int length = 600; length > 580; length--) {
            int tried = length;
            if (answer(() -> x.truncateInput(tried)) instanceof Integer) return length;
        }
        return -1;
    }

    private static void leaves(String call, Make make, On on, List<String> parts) {
        Make after = () -> {
            FramedLog x = make.make();
            answer(() -> on.call(x));
            return x;
        };
        for (String part : parts) due(call + " and then the " + part, look(after, part), look(make, part));
    }

    private static List<String> without(String... changed) {
        List<String> rest = new ArrayList<>(PARTS);
        rest.removeAll(List.of(changed));
        return rest;
    }

    private static void refused(String call, Class<?> want, Make make, On on) {
        FramedLog x = make.make();
        thrown(call, want, () -> on.call(x));
        thrown(call + " again", want, () -> on.call(x));
        leaves(call, make, on, PARTS);
    }

    private static void refused(String call, Class<?> want, String text, Given on, int... given) {
        for (int g : given) refused(call + " with " + g + " after <" + text + ">", want, () -> busy(text), x -> on.call(x, g));
    }

    private static void allowed(String call, String text, Given on, int... given) {
        for (int g : given) {
            FramedLog x = busy(text);
            Object got = answer(() -> on.call(x, g));
            due(call + " with " + g + " after <" + text + "> throws", got instanceof Class, false);
        }
    }

    private static void input() {
        about = "promise 2: refused if the new length would be greater than 600";
        for (int length : new int[] {581, 599, 600}) {
            refused("appendInput at " + length, STATE, () -> busy(SMALL, "y".repeat(length)), x -> x.appendInput(1, 2, 3, 4, 5));
        }
        for (int length : new int[] {0, 1, 579, 580}) {
            due("appendInput at " + length, busy(SMALL, "y".repeat(length)).appendInput(1, 2, 3, 4, 5), length + 20);
        }
        about = "promise 3: refused if the length is out of range, 0 to the current length";
        refused("truncateInput", ARGUMENT, SMALL, FramedLog::truncateInput, 4, 5, 600, -1, MIN, MAX);
        allowed("truncateInput", SMALL, FramedLog::truncateInput, 0, 1, 3);
        for (int length : new int[] {1, -1}) {
            refused("truncateInput", ARGUMENT, () -> busy(SMALL, ""), x -> x.truncateInput(length));
        }
        due("truncateInput(0) of an empty buffer", busy(SMALL, "").truncateInput(0), 0);
        FramedLog full = busy(SMALL, "y".repeat(600));
        thrown("truncateInput(601)", ARGUMENT, () -> full.truncateInput(601));
        due("truncateInput(600)", full.truncateInput(600), 600);
    }

    private static void load() {
        about = "promise 4: a text with an error changes the input buffer and the error alone";
        Map<String, String> errors = new LinkedHashMap<>();
        errors.put("", "1 at 0");
        errors.put("block 10;record a", "1 at 17");
        errors.put("block 10;record a;reader q;read q 1;damage 4 1;", "2 at 43");
        errors.put("block 10;reader q;reader q;", "3 at 25");
        errors.put("block 10;record a;read q 1;", "4 at 23");
        errors.put("block 10;reader a;reader b;reader c;reader d;reader", "5 at 45");
        errors.put(FULL_TEXT + "record b;", "5 at " + (FULL_TEXT.length() + 8));
        for (String text : errors.keySet()) {
            Make make = () -> busy(SMALL, text);
            FramedLog x = make.make();
            thrown("load of <" + text + ">", ARGUMENT, x::load);
            due("error of <" + text + ">", x.errorCode() + " at " + x.errorPosition(), errors.get(text));
            due("the input after <" + text + ">", inputLength(x), 0);
            leaves("load of <" + text + ">", make, FramedLog::load, without(ERROR, INPUT));
        }
        FramedLog x = busy(SMALL, "");
        due("the error of an empty text is the latest", answer(x::load) == ARGUMENT ? x.errorCode() + " at " + x.errorPosition() : "", "1 at 0");
    }

    private static void offsets() {
        Map<String, Given> questions = new LinkedHashMap<>();
        questions.put("promise 10: logByte", FramedLog::logByte);
        questions.put("promise 19: isFragmentStart", FramedLog::isFragmentStart);
        questions.put("promise 47: recordsIfDamaged", FramedLog::recordsIfDamaged);
        questions.put("promise 55: damage", (x, offset) -> x.damage(offset, 1));
        questions.forEach((call, on) -> {
            about = call + " is refused if the offset is not inside the log";
            refused(call, INDEX, SMALL, on, -1, 13, 14, 16, 400, MIN, MAX);
            refused(call, INDEX, EMPTY, on, 0, -1);
            allowed(call, SMALL, on, 0, 12);
            thrown(call + " of 400", INDEX, () -> on.call(loaded(FULL_TEXT), 400));
            due(call + " of 399 throws", answer(() -> on.call(loaded(FULL_TEXT), 399)) instanceof Class, false);
        });
    }

    private static void readers() {
        Map<String, Given> calls = new LinkedHashMap<>();
        calls.put("promise 13: readerNameByte", (x, reader) -> x.readerNameByte(reader, 0));
        calls.put("promise 14: readerOffset", FramedLog::readerOffset);
        calls.put("promise 15: recordsRead", FramedLog::recordsRead);
        calls.put("promise 16: damageProblems", FramedLog::damageProblems);
        calls.put("promise 17: incompleteProblems", FramedLog::incompleteProblems);
        calls.put("promise 18: orphanProblems", FramedLog::orphanProblems);
        calls.put("promise 39: recordsLeft", FramedLog::recordsLeft);
        calls.put("promise 40: nextRecordLength", FramedLog::nextRecordLength);
        calls.put("promise 41: nextRecordStart", FramedLog::nextRecordStart);
        calls.put("promise 42: offsetAfterNext", FramedLog::offsetAfterNext);
        calls.put("promise 43: problemsBeforeNext", FramedLog::problemsBeforeNext);
        calls.put("promise 52: read", FramedLog::read);
        calls.put("promise 53: seek", (x, reader) -> x.seek(reader, 0));
        calls.forEach((call, on) -> {
            about = call + " is refused if the reader does not exist";
            refused(call, INDEX, SMALL, on, -1, 2, 3, 4, MIN, MAX);
            refused(call, INDEX, EMPTY, on, 0, -1);
            refused(call, INDEX, CROWDED, on, 4, -1);
            allowed(call, SMALL, on, 0, 1);
            allowed(call, CROWDED, on, 0, 3);
        });
        about = "promise 13: refused if the name has no such position";
        refused("readerNameByte(0, ..)", ELEMENT, SMALL, (x, position) -> x.readerNameByte(0, position), 1, 4, -1, MIN, MAX);
        FramedLog longest = loaded("block 8;reader abcd;");
        due("the last of 4 letters", longest.readerNameByte(0, 3), (int) 'd');
        thrown("behind 4 letters", ELEMENT, () -> longest.readerNameByte(0, 4));
    }

    private static void fragments() {
        Map<String, Given> calls = new LinkedHashMap<>();
        calls.put("promise 20: fragmentType", FramedLog::fragmentType);
        calls.put("promise 21: fragmentLength", FramedLog::fragmentLength);
        calls.put("promise 22: expectedChecksum", FramedLog::expectedChecksum);
        calls.put("promise 23: isChecksumRight", FramedLog::isChecksumRight);
        calls.put("promise 56: repair", FramedLog::repair);
        calls.forEach((call, on) -> {
            about = call + " is refused if no fragment starts at the offset";
            refused(call, ARGUMENT, SMALL, on, 1, 2, 3, 5, 6, 7, 9, 12, 13, 16, -1, -8, MIN, MAX, MAX - 1, MAX - 2);
            refused(call, ARGUMENT, EMPTY, on, 0, -1);
            allowed(call, SMALL, on, 0, 8);
            refused(call + " where the payload is cut", ARGUMENT, SMALL + "cut 5;", on, 0);
            refused(call + " where the header is cut", ARGUMENT, SMALL + "cut 10;", on, 8);
            refused(call + " where the type is 0", ARGUMENT, SMALL + "damage 2 1;", on, 0);
            refused(call + " where the type is 5", ARGUMENT, SMALL + "damage 2 4;", on, 0);
            refused(call + " where the payload leaves the block", ARGUMENT, SMALL + "damage 1 5;", on, 0);
            allowed(call + " where the checksum is wrong", SMALL + "damage 0 1;", on, 0);
        });
    }

    private static void blocks() {
        Map<String, Given> calls = new LinkedHashMap<>();
        calls.put("promise 27: bytesAfterFragments", FramedLog::bytesAfterFragments);
        calls.put("promise 59: describeBlock", FramedLog::describeBlock);
        calls.forEach((call, on) -> {
            about = call + " is refused if the block does not exist";
            // 2^29 blocks of 8 bytes are 2^32 bytes, which an int takes for 0
            refused(call, INDEX, SMALL, on, -1, 2, 3, 13, 1 << 29, 1 << 28, MIN, MAX);
            refused(call, INDEX, EMPTY, on, 0, -1);
            refused(call + " behind a whole block", INDEX, SMALL + "cut 8;", on, 1);
            allowed(call, SMALL, on, 0, 1);
            allowed(call + " of one byte", SMALL + "cut 9;", on, 1);
        });
    }

    private static void records() {
        Map<String, Given> calls = new LinkedHashMap<>();
        calls.put("promise 29: recordStart", FramedLog::recordStart);
        calls.put("promise 30: recordLength", FramedLog::recordLength);
        calls.put("promise 31: recordByte", (x, record) -> x.recordByte(record, 0));
        calls.put("promise 32: recordFragments", FramedLog::recordFragments);
        calls.forEach((call, on) -> {
            about = call + " is refused if the record does not exist";
            refused(call, INDEX, SMALL, on, -1, 2, 3, 400, MIN, MAX);
            refused(call, INDEX, EMPTY, on, 0, -1);
            refused(call + " without readable records", INDEX, "block 8;record a;damage 0 1;", on, 0);
            allowed(call, SMALL, on, 0, 1);
        });
        about = "promise 31: refused if the record has no such position";
        refused("recordByte(0, ..)", ELEMENT, SMALL, (x, position) -> x.recordByte(0, position), 3, 4, -1, 400, MIN, MAX);
        refused("recordByte(1, ..)", ELEMENT, SMALL, (x, position) -> x.recordByte(1, position), 2);
        allowed("recordByte(0, ..)", SMALL, (x, position) -> x.recordByte(0, position), 0, 2);
        thrown("of a record of 0 bytes", ELEMENT, () -> raw(8, full("")).recordByte(0, 0));
    }

    private static void lengths() {
        about = "promise 45: writeCost is refused if the length is out of range, 1 to 40";
        refused("writeCost", ARGUMENT, SMALL, FramedLog::writeCost, 0, -1, 41, 42, 400, MIN, MAX);
        allowed("writeCost", SMALL, FramedLog::writeCost, 1, 40);
        about = "promise 46: fragmentsFor is refused if the length is out of range, 1 to 40";
        refused("fragmentsFor", ARGUMENT, SMALL, FramedLog::fragmentsFor, 0, -1, 41, 42, 400, MIN, MAX);
        allowed("fragmentsFor", SMALL, FramedLog::fragmentsFor, 1, 40);
        about = "promise 49: recordsIfTruncated is refused if the length is out of range, 0 to logLength";
        refused("recordsIfTruncated", ARGUMENT, SMALL, FramedLog::recordsIfTruncated, -1, 14, 15, 400, MIN, MAX);
        refused("recordsIfTruncated", ARGUMENT, EMPTY, FramedLog::recordsIfTruncated, -1, 1);
        allowed("recordsIfTruncated", SMALL, FramedLog::recordsIfTruncated, 0, 13);
        allowed("recordsIfTruncated", EMPTY, FramedLog::recordsIfTruncated, 0);
        about = "promise 54: truncateLog is refused if the length is out of range, 0 to logLength";
        refused("truncateLog", ARGUMENT, SMALL, FramedLog::truncateLog, -1, 14, 15, 400, MIN, MAX);
        refused("truncateLog", ARGUMENT, EMPTY, FramedLog::truncateLog, -1, 1);
        allowed("truncateLog", SMALL, FramedLog::truncateLog, 0, 13);
        allowed("truncateLog", EMPTY, FramedLog::truncateLog, 0);
    }

    private static void writeRecord() {
        about = "promise 50: refused if the input buffer does not contain 1 to 40 bytes";
        for (int length : new int[] {0, 41, 42, 60, 600}) {
            refused("writeRecord of " + length, ARGUMENT, () -> busy(SMALL, "y".repeat(length)), FramedLog::writeRecord);
        }
        for (int length : new int[] {1, 40}) {
            due("writeRecord of " + length, answer(busy(SMALL, "y".repeat(length))::writeRecord) instanceof Integer, true);
        }
        about = "promise 50: refused if the log would become longer than 400 bytes";
        refused("writeRecord to 404", STATE, () -> busy(FULL_TEXT, "y"), FramedLog::writeRecord);
        refused("writeRecord to 401", STATE, () -> busy(FULL_TEXT + "cut 396;", "yz"), FramedLog::writeRecord);
        due("writeRecord to 400", busy(FULL_TEXT + "cut 396;", "y").writeRecord(), 1);
        refused("writeRecord of 40 bytes to 401", STATE, () -> busy(FULL_TEXT + "cut 355;", A40), FramedLog::writeRecord);
        due("writeRecord of 40 bytes to 400", busy(FULL_TEXT + "cut 354;", A40).writeRecord(), 2);
        String padded = "block 11;" + "record bbbbbbbb;".repeat(35) + "record cccccc;";
        refused("writeRecord with padding to 401", STATE, () -> busy(padded, "yz"), FramedLog::writeRecord);
        due("writeRecord with padding to 400", busy(padded, "y").writeRecord(), 1);
    }

    private static void addReader() {
        about = "promise 51: refused if the input buffer is not a name of 1 to 4 letters a to z";
        for (String name : new String[] {"", "abcde", "abcdefgh", "`", "{", "A", "Z", "0", "9", " ", "\n", ";", "\0", "\u00e1", "\u00ff",
                " a", "a ", "a\0", "\0a", "aB", "ab1", "abc`", "{bcd", "ab\u00e9d", "y".repeat(600)}) {
            refused("addReader of <" + name + ">", ARGUMENT, () -> busy(SMALL, name), FramedLog::addReader);
        }
        for (String name : new String[] {"a", "z", "az", "abcd", "zzzz"}) {
            due("addReader of <" + name + ">", busy(SMALL, name).addReader(), 2);
        }
        about = "promise 51: refused if there are 4 readers";
        refused("addReader", STATE, () -> busy(CROWDED, "e"), FramedLog::addReader);
        refused("addReader of a name that is taken, too", STATE, () -> busy(CROWDED, "d"), FramedLog::addReader);
        about = "promise 51: refused if a reader has this name";
        refused("addReader", STATE, () -> busy(SMALL, "r"), FramedLog::addReader);
        refused("addReader", STATE, () -> busy(SMALL, "s"), FramedLog::addReader);
        due("a longer name", busy(SMALL, "rs").addReader(), 2);
        due("a shorter name", busy("block 8;reader abcd;", "abc").addReader(), 1);
    }

    private static void read() {
        about = "promise 52: refused if the search fails";
        On reads = x -> x.read(0);
        refused("read in an empty log", ELEMENT, () -> busy("block 8;reader r;"), reads);
        refused("read at the end", ELEMENT, () -> busy("block 8;record a;reader r;read r 1;"), reads);
        refused("read before padding", ELEMENT, () -> busy("block 8;record abc;record d;cut 8;reader r;read r 1;"), reads);
        refused("read of a cut header", ELEMENT, () -> busy("block 8;record a;cut 2;reader r;"), reads);
        refused("read of a cut payload", ELEMENT, () -> busy("block 8;record a;cut 3;reader r;"), reads);
        refused("read of a cut record", ELEMENT, () -> busy("block 8;record abcdef;cut 8;reader r;"), reads);
        refused("read of a broken record", ELEMENT, () -> busy("block 8;record a;damage 0 1;reader r;"), reads);
        refused("read of an orphan", ELEMENT, () -> busy("block 8;record abcdef;damage 0 1;reader r;"), reads);
    }

    private static void seekAndDamage() {
        about = "promise 53: refused if the block is out of range";
        refused("seek(0, ..)", ARGUMENT, SMALL, (x, block) -> x.seek(0, block), -1, 3, 4, 13, 1 << 29, 1 << 28, MIN, MAX);
        refused("seek(0, ..)", ARGUMENT, "block 8;reader r;", (x, block) -> x.seek(0, block), -1, 1);
        refused("seek(0, ..)", ARGUMENT, SMALL + "cut 8;", (x, block) -> x.seek(0, block), 2);
        allowed("seek(0, ..)", SMALL, (x, block) -> x.seek(0, block), 0, 1, 2);
        allowed("seek(0, ..)", "block 8;reader r;", (x, block) -> x.seek(0, block), 0);
        allowed("seek(0, ..)", SMALL + "cut 8;", (x, block) -> x.seek(0, block), 1);
        about = "promise 55: refused if the mask is out of range, 1 to 255";
        refused("damage(0, ..)", ARGUMENT, SMALL, (x, mask) -> x.damage(0, mask), 0, 256, 257, 511, -1, -255, MIN, MAX);
        allowed("damage(0, ..)", SMALL, (x, mask) -> x.damage(0, mask), 1, 255);
    }

    private static void dropBlocks() {
        about = "promise 57: refused if the number is out of range, 1 to the number of blocks that are as long as the block size";
        refused("dropBlocks", ARGUMENT, SMALL, FramedLog::dropBlocks, 0, -1, 2, 3, 1 << 29, MIN, MAX);
        refused("dropBlocks", ARGUMENT, EMPTY, FramedLog::dropBlocks, 0, 1, -1);
        refused("dropBlocks", ARGUMENT, SMALL + "cut 7;", FramedLog::dropBlocks, 1);
        allowed("dropBlocks", SMALL, FramedLog::dropBlocks, 1);
        allowed("dropBlocks", SMALL + "cut 8;", FramedLog::dropBlocks, 1);
        due("all whole blocks of 400", loaded(FULL_TEXT).dropBlocks(12), 16);
        thrown("one more", ARGUMENT, () -> loaded(FULL_TEXT).dropBlocks(13));
    }

    private static void output() {
        about = "promise 60: refused if the output has no such position";
        refused("outputByte", ELEMENT, SMALL, FramedLog::outputByte, 2, 3, -1, 400, MIN, MAX);
        allowed("outputByte", SMALL, FramedLog::outputByte, 0, 1);
        for (int position : new int[] {0, -1, MAX}) {
            refused("outputByte(" + position + ") of a new object", ELEMENT, FramedLog::new, x -> x.outputByte(position));
        }
    }

    private static void slots() {
        about = "promise 61: refused if the slot does not exist";
        refused("save", INDEX, SMALL, FramedLog::save, -1, 2, 3, MIN, MAX);
        allowed("save", SMALL, FramedLog::save, 0, 1);
        about = "promise 62: refused if the slot does not exist";
        refused("restore", INDEX, SMALL, FramedLog::restore, -1, 2, 3, MIN, MAX);
        about = "promise 62: refused if the slot is empty";
        refused("restore", STATE, SMALL, FramedLog::restore, 1);
        allowed("restore", SMALL, FramedLog::restore, 0);
        refused("restore(0) of a new object", STATE, FramedLog::new, x -> x.restore(0));
        refused("restore(1) of a new object", STATE, FramedLog::new, x -> x.restore(1));
    }

    private static void undo() {
        about = "promise 63: refused if no call is remembered";
        refused("undo of a new object", STATE, FramedLog::new, FramedLog::undo);
        refused("undo after all", STATE, () -> {
            FramedLog x = busy(SMALL);
            x.undo();
            x.undo();
            return x;
        }, FramedLog::undo);
        refused("undo after more than 8 calls", STATE, () -> {
            FramedLog x = busy(SMALL);
            for (int i = 1; i <= 9; i++) x.damage(0, i);
            for (int i = 1; i <= 8; i++) x.undo();
            return x;
        }, FramedLog::undo);
    }

    private static void firstListedException() {
        about = "section 5: if several exceptions apply, the one that is listed first is thrown";
        refused("readerNameByte", INDEX, SMALL, (x, reader) -> x.readerNameByte(reader, 9), -1, 2);
        refused("recordByte", INDEX, SMALL, (x, record) -> x.recordByte(record, 9), -1, 2);
        refused("writeRecord of 0 in a full log", ARGUMENT, () -> busy(FULL_TEXT, ""), FramedLog::writeRecord);
        refused("writeRecord of 41 in a full log", ARGUMENT, () -> busy(FULL_TEXT, A40 + "a"), FramedLog::writeRecord);
        refused("addReader of nothing as a fifth", ARGUMENT, () -> busy(CROWDED, ""), FramedLog::addReader);
        refused("addReader of a bad name as a fifth", ARGUMENT, () -> busy(CROWDED, "A"), FramedLog::addReader);
        refused("read by no reader in an empty log", INDEX, EMPTY, FramedLog::read, 0);
        refused("seek", INDEX, SMALL, (x, reader) -> x.seek(reader, 9), -1, 2);
        refused("seek", INDEX, SMALL, (x, reader) -> x.seek(reader, -1), -1, 2);
        refused("damage", INDEX, SMALL, (x, offset) -> x.damage(offset, 0), -1, 13);
        refused("damage", INDEX, SMALL, (x, offset) -> x.damage(offset, 256), -1, 13);
    }

    private static Map<String, On> allQuestions() {
        Map<String, On> all = new LinkedHashMap<>();
        all.put("errorCode", FramedLog::errorCode);
        all.put("errorPosition", FramedLog::errorPosition);
        all.put("blockSize", FramedLog::blockSize);
        all.put("logLength", FramedLog::logLength);
        all.put("blockCount", FramedLog::blockCount);
        all.put("logByte", x -> x.logByte(10));
        all.put("writtenRecords", FramedLog::writtenRecords);
        all.put("readerCount", FramedLog::readerCount);
        all.put("readerNameByte", x -> x.readerNameByte(1, 0));
        all.put("readerOffset", x -> x.readerOffset(0));
        all.put("recordsRead", x -> x.recordsRead(0));
        all.put("damageProblems", x -> x.damageProblems(0));
        all.put("incompleteProblems", x -> x.incompleteProblems(0));
        all.put("orphanProblems", x -> x.orphanProblems(0));
        all.put("isFragmentStart", x -> x.isFragmentStart(8));
        all.put("fragmentType", x -> x.fragmentType(8));
        all.put("fragmentLength", x -> x.fragmentLength(8));
        all.put("expectedChecksum", x -> x.expectedChecksum(8));
        all.put("isChecksumRight", x -> x.isChecksumRight(8));
        all.put("fragmentCount", FramedLog::fragmentCount);
        all.put("wrongChecksums", FramedLog::wrongChecksums);
        all.put("firstWrongChecksum", FramedLog::firstWrongChecksum);
        all.put("bytesAfterFragments", x -> x.bytesAfterFragments(0));
        all.put("recordCount", FramedLog::recordCount);
        all.put("recordStart", x -> x.recordStart(1));
        all.put("recordLength", x -> x.recordLength(1));
        all.put("recordByte", x -> x.recordByte(1, 1));
        all.put("recordFragments", x -> x.recordFragments(1));
        all.put("longestRecord", FramedLog::longestRecord);
        all.put("readableBytes", FramedLog::readableBytes);
        all.put("paddingBytes", FramedLog::paddingBytes);
        all.put("unreadableBytes", FramedLog::unreadableBytes);
        all.put("sharePayload", FramedLog::sharePayload);
        all.put("meanRecordLength", FramedLog::meanRecordLength);
        all.put("recordsLeft", x -> x.recordsLeft(0));
        all.put("nextRecordLength", x -> x.nextRecordLength(0));
        all.put("nextRecordStart", x -> x.nextRecordStart(0));
        all.put("offsetAfterNext", x -> x.offsetAfterNext(0));
        all.put("problemsBeforeNext", x -> x.problemsBeforeNext(0));
        all.put("slowestReader", FramedLog::slowestReader);
        all.put("writeCost", x -> x.writeCost(40));
        all.put("fragmentsFor", x -> x.fragmentsFor(40));
        all.put("recordsIfDamaged", x -> x.recordsIfDamaged(0));
        all.put("weakestOffset", FramedLog::weakestOffset);
        all.put("recordsIfTruncated", x -> x.recordsIfTruncated(9));
        all.put("outputByte", x -> x.outputByte(1));
        all.put("undoDepth", FramedLog::undoDepth);
        return all;
    }

    /** Each kind of thing: three readable records, padding, a broken fragment, an orphan, and a cut fragment. */
    private static final String MIXED = "block 8;record abc;record de;record fghijk;record l;record mnopqrs;record t;record uvw;"
            + "reader r;reader s;read r 2;damage 32 1;cut 47;";

    private static void questions() {
        about = "section 5: methods that ask a question change nothing";
        Map<String, On> all = allQuestions();
        due("the number of questions", all.size(), 47);
        Make mixed = () -> busy(MIXED);
        all.forEach((call, on) -> {
            Object answer = answer(() -> on.call(mixed.make()));
            due(call + " throws", answer instanceof Class, false);
            leaves(call, mixed, on, PARTS);
            all.forEach((earlier, before) -> {
                FramedLog x = mixed.make();
                before.call(x);
                due(call + " after " + earlier, on.call(x), answer);
            });
        });
    }

    /** A small log with an input that load, writeRecord and addReader take. */
    private static Make given(String input) {
        return () -> busy(MIXED, input);
    }

    private static void whatCallsLeaveAlone() {
        about = "section 5: the input buffer, the error, the output and the slots are not part of the state";
        leaves("appendInput", given("xyz"), x -> x.appendInput(1, 2, 3, 4, 5), without(INPUT));
        leaves("truncateInput", given("xyz"), x -> x.truncateInput(1), without(INPUT));
        leaves("load", given("block 8;record a;reader b;"), FramedLog::load, List.of(OUTPUT, SLOT0));
        leaves("writeRecord", given("xyz"), FramedLog::writeRecord, List.of(ERROR, OUTPUT, SLOT0));
        leaves("addReader", given("xyz"), FramedLog::addReader, List.of(ERROR, OUTPUT, SLOT0));
        leaves("read", given("xyz"), x -> x.read(1), List.of(ERROR, SLOT0, INPUT));
        leaves("seek", given("xyz"), x -> x.seek(1, 2), List.of(ERROR, OUTPUT, SLOT0, INPUT));
        leaves("truncateLog", given("xyz"), x -> x.truncateLog(20), List.of(ERROR, OUTPUT, SLOT0, INPUT));
        leaves("damage", given("xyz"), x -> x.damage(0, 5), List.of(ERROR, OUTPUT, SLOT0, INPUT));
        leaves("repair", given("xyz"), x -> x.repair(32), List.of(ERROR, OUTPUT, SLOT0, INPUT));
        leaves("dropBlocks", given("xyz"), x -> x.dropBlocks(2), List.of(ERROR, OUTPUT, SLOT0, INPUT));
        leaves("compact", given("xyz"), FramedLog::compact, List.of(ERROR, OUTPUT, SLOT0, INPUT));
        leaves("describeBlock", given("xyz"), x -> x.describeBlock(1), without(OUTPUT));
        leaves("save(0)", given("xyz"), x -> x.save(0), without(SLOT0));
        leaves("save(1)", given("xyz"), x -> x.save(1), without(SLOT1));
        leaves("restore", given("xyz"), x -> x.restore(0), List.of(ERROR, OUTPUT, SLOT0, INPUT));
        leaves("undo", given("xyz"), FramedLog::undo, List.of(ERROR, OUTPUT, SLOT0, INPUT));
    }

    private static Map<String, On> undoableCalls() {
        Map<String, On> calls = new LinkedHashMap<>();
        calls.put("load", x -> {
            type(x, "block 12;record other;reader u;read u 1;");
            return x.load();
        });
        calls.put("writeRecord", x -> writes(x, "abcdefgh"));
        calls.put("addReader", x -> {
            type(x, "new");
            return x.addReader();
        });
        calls.put("read", x -> x.read(1));
        calls.put("read with problems", x -> x.read(0));
        calls.put("seek", x -> x.seek(0, 1));
        calls.put("seek to the same offset", x -> x.seek(1, 0));
        calls.put("truncateLog", x -> x.truncateLog(4));
        calls.put("truncateLog to the same length", x -> x.truncateLog(x.logLength()));
        calls.put("damage", x -> x.damage(3, 255));
        calls.put("repair", x -> x.repair(32));
        calls.put("repair of a right checksum", x -> x.repair(0));
        calls.put("dropBlocks", x -> x.dropBlocks(2));
        calls.put("compact", FramedLog::compact);
        calls.put("restore", x -> x.restore(0));
        return calls;
    }

    private static void undoable() {
        undoableCalls().forEach((call, on) -> {
            about = "section 5: " + call + " is remembered, and undo restores the state before it";
            FramedLog x = busy(MIXED);
            String before = all(x);
            due("the call throws", answer(() -> on.call(x)) instanceof Class, false);
            due("undoDepth", x.undoDepth(), 3);
            due("undo", x.undo(), 2);
            due("undoDepth", x.undoDepth(), 2);
            due("the state", all(x), before);
            Make done = () -> {
                FramedLog y = busy(MIXED);
                on.call(y);
                return y;
            };
            leaves("undo of it", done, FramedLog::undo, List.of(ERROR, OUTPUT, SLOT0, INPUT));
            // the call is made anew after its undo, as if for the first time
            Make doneAgain = () -> {
                FramedLog y = done.make();
                y.undo();
                on.call(y);
                return y;
            };
            due("the state after undo and the same call", look(doneAgain, NOW), look(done, NOW));
            due("the remembered calls after undo and the same call", look(doneAgain, UNDONE), look(done, UNDONE));

            about = "section 5: the latest 8 undoable calls are remembered, " + call + " among them";
            FramedLog many = busy("block 8;record a;reader r;");
            for (int i = 1; i <= 8; i++) many.damage(3, i);
            due("undoDepth", many.undoDepth(), 8);
            String latest = all(many);
            type(many, "block 8;");
            many.load();
            due("undoDepth after a ninth", many.undoDepth(), 8);
            due("undo of the ninth", many.undo() + " " + all(many).equals(latest), "7 true");
        });
    }

    private static void notUndoable() {
        about = "section 5: other calls are not remembered";
        FramedLog x = busy(MIXED);
        x.damage(3, 1);
        String state = all(x);
        x.appendInput(1, 2, 3, 4, 5);
        x.truncateInput(0);
        x.describeBlock(0);
        x.save(0);
        x.save(1);
        thrown("load", ARGUMENT, x::load);
        thrown("writeRecord", ARGUMENT, x::writeRecord);
        thrown("addReader", ARGUMENT, x::addReader);
        thrown("read", INDEX, () -> x.read(2));
        thrown("seek", ARGUMENT, () -> x.seek(0, 99));
        thrown("truncateLog", ARGUMENT, () -> x.truncateLog(99));
        thrown("damage", ARGUMENT, () -> x.damage(0, 0));
        thrown("repair", ARGUMENT, () -> x.repair(1));
        thrown("dropBlocks", ARGUMENT, () -> x.dropBlocks(0));
        thrown("restore", INDEX, () -> x.restore(2));
        due("undoDepth", x.undoDepth(), 3);
        due("the state", all(x), state);
        due("undo of damage", x.undo() + " " + (char) x.logByte(3), "2 a");
        due("undo is not remembered", x.undo() + " " + x.undo() + " " + answer(x::undo), "1 0 " + STATE);
    }
}
