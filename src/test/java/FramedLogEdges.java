import java.util.ArrayList;
import java.util.List;

/** The sentences of the promises that name a boundary, with the answers on it and beside it. What is refused: FramedLogRefusals. */
public final class FramedLogEdges extends Checks {
    private static final String[] TAILS = {full("abcde"), full("abcd") + "\1", full("abc") + "\1\2", full("ab") + "\1\2\0",
            full("ab") + full(""), full("ab") + first(""), full("a") + "\1\2\0\3"};

    public static void main(String[] args) {
        newObject();
        input();
        load();
        logQuestions();
        readerQuestions();
        fragmentQuestions();
        recordQuestions();
        longestRecord();
        bytesByKind();
        shares();
        searchQuestions();
        slowestReader();
        costs();
        ifDamaged();
        ifTruncated();
        writeRecord();
        addReader();
        read();
        seek();
        truncateLog();
        damageAndRepair();
        dropBlocks();
        compact();
        compactKeepsTheRecords();
        describeBlock();
        slots();
        undo();
        countsAreKept();
        fullOfFragments();
        fullOfDamage();
        fullOfOneRecord();
        tellTheEnd();
    }

    private static void newObject() {
        about = "promise 1: an empty input buffer, no error, an empty output and empty slots";
        thrown("the input", ARGUMENT, () -> new FramedLog().truncateInput(1));
        thrown("the input has no record", ARGUMENT, () -> new FramedLog().writeRecord());
        due("the first bytes of the input", new FramedLog().appendInput(0, 0, 0, 0, 0), 20);
        due("the error", new FramedLog().errorCode() + " " + new FramedLog().errorPosition(), "0 -1");
        thrown("the output", ELEMENT, () -> new FramedLog().outputByte(0));
        for (int slot = 0; slot <= 1; slot++) {
            int empty = slot;
            thrown("the slot " + slot, STATE, () -> new FramedLog().restore(empty));
        }
        due("the objects are apart", new FramedLog().truncateLog(0) + new FramedLog().logLength(), 88);
    }

    private static void input() {
        about = "promise 2: the four bytes of each argument, the most significant byte first";
        for (int argument = 0; argument < 5; argument++) {
            int[] given = new int[5];
            StringBuilder want = new StringBuilder("\0".repeat(20));
            given[argument] = 0x80ff017f;
            want.replace(4 * argument, 4 * argument + 4, "\u0080\u00ff\1\u007f");
            FramedLog x = loaded("block 32;");
            x.appendInput(given[0], given[1], given[2], given[3], given[4]);
            x.writeRecord();
            due("argument " + argument, record(x, 0), want.toString());
        }
        for (int value : new int[] {MIN, MAX, -1, 0, 1, -256, 255, 256}) {
            FramedLog x = loaded("block 32;");
            x.appendInput(value, value, value, value, value);
            x.writeRecord();
            String four = "" + (char) (value >>> 24) + (char) (value >> 16 & 255) + (char) (value >> 8 & 255) + (char) (value & 255);
            due("five times " + value, record(x, 0), four.repeat(5));
        }

        about = "promise 2: returns the new length of the buffer";
        FramedLog x = new FramedLog();
        for (int length = 20; length <= 600; length += 20) due("appendInput", x.appendInput(1, 2, 3, 4, 5), length);

        about = "promise 3: truncates the input buffer, returns the new length";
        FramedLog y = loaded("block 32;");
        y.appendInput(0x61626364, 0x65666768, 0, 0, 0);
        due("to the current length", y.truncateInput(20), 20);
        due("to less", y.truncateInput(7), 7);
        due("bytes behind it", y.appendInput(0x78787878, 0, 0, 0, 0), 27);
        y.truncateInput(9);
        y.writeRecord();
        due("what was cut is gone", record(y, 0), "abcdefgxx");
        due("to nothing", y.truncateInput(0), 0);
    }

    private static void load() {
        about = "promise 4: returns the length of the log";
        for (int length : new int[] {0, 1, 4}) {
            FramedLog x = new FramedLog();
            type(x, "block 8;record a;cut " + length + ";");
            due("load", x.load(), length);
        }
        FramedLog full = new FramedLog();
        type(full, FULL_TEXT);
        due("load of a full log", full.load(), 400);

        about = "promise 4: replaces the state by the result";
        FramedLog x = loaded("block 8;record abcde;record f;reader r;reader s;damage 0 1;read r 1;");
        type(x, "block 9;reader s;");
        x.load();
        due("nothing is left of the earlier state", all(x), "9||0|s 0 0 0 0 0");

        about = "promises 5 and 6: 0 and NONE if the latest load had no error";
        type(x, "block 9");
        thrown("load", ARGUMENT, x::load);
        due("the error", x.errorCode() + " " + x.errorPosition(), "1 7");
        type(x, "block 99;");
        thrown("load", ARGUMENT, x::load);
        due("the latest error", x.errorCode() + " " + x.errorPosition(), "2 6");
        type(x, "block 9;");
        x.load();
        due("no error", x.errorCode() + " " + x.errorPosition(), "0 -1");
    }

    private static void logQuestions() {
        about = "promise 9: the number of blocks, including a shorter last one";
        due("400 bytes in blocks of 8", raw(8, "").blockCount() + " " + loaded(FULL_TEXT).blockCount(), "0 13");
        int[][] lengthAndBlocks = {{0, 0}, {1, 1}, {31, 1}, {32, 1}, {33, 2}, {64, 2}, {65, 3}};
        for (int[] pair : lengthAndBlocks) due("blockCount of " + pair[0], loaded(FULL_TEXT + "cut " + pair[0] + ";").blockCount(), pair[1]);

        about = "promise 10: the byte at this offset";
        FramedLog x = raw(8, "\u00ff\0\u0080");
        due("the bytes", x.logByte(0) + " " + x.logByte(1) + " " + x.logByte(2), "255 0 128");

        about = "promise 11: records written since the latest load, including those of the text; compact does not change it";
        FramedLog w = loaded("block 8;");
        due("none", w.writtenRecords(), 0);
        due("written in the text and cut", loaded("block 8;record a;record b;cut 0;").writtenRecords(), 2);
        writes(w, "abcdefghijkl");
        due("one of several fragments", w.writtenRecords(), 1);
        writes(w, "z");
        w.damage(0, 1);
        w.truncateLog(20);
        w.dropBlocks(1);
        w.compact();
        due("after compact", w.recordCount() + " " + w.writtenRecords(), "0 2");
        thrown("a refused writeRecord", ARGUMENT, w::writeRecord);
        due("after it", w.writtenRecords(), 2);
    }

    private static void readerQuestions() {
        about = "promise 13: the letter at this position as a byte";
        FramedLog x = loaded("block 8;reader a;reader wxyz;");
        due("letters", name(x, 0) + " " + name(x, 1), "a wxyz");

        about = "promises 14 to 18: a reader that has read nothing, and one that has met everything";
        String troubles = broken(full("abcde")) + middle("abcde") + last("abcde") + last("abcde") + first("abcde") + first("abcde") + full("xy");
        FramedLog y = raw(8, troubles);
        due("counts", counts(y, 0), "0 0 0 0 0");
        y.read(0);
        due("counts", counts(y, 0), "53 1 1 2 3");
    }

    private static void fragmentQuestions() {
        about = "promises 20 to 23: at each offset at which a fragment starts";
        FramedLog x = raw(8, broken(full("")) + last("ab") + first("abcde") + middle("") + full("zz"));
        int[][] offsetTypeLength = {{0, 1, 0}, {3, 4, 2}, {8, 2, 5}, {16, 3, 0}, {19, 1, 2}};
        for (int[] each : offsetTypeLength) {
            due("type and length at " + each[0], x.fragmentType(each[0]) + " " + x.fragmentLength(each[0]), each[1] + " " + each[2]);
            due("isChecksumRight at " + each[0], x.isChecksumRight(each[0]), each[0] != 0);
        }
        due("longest", loaded(FULL_TEXT).fragmentLength(0) + " " + loaded(FULL_TEXT).fragmentLength(384), "29 13");
        FramedLog full = loaded("block 8;");
        for (int i = 0; i < 50; i++) writes(full, "abcde");
        due("the last fragment of 400", full.fragmentLength(392) + " " + full.fragmentType(392), "5 1");

        about = "promise 22: whatever its header contains";
        for (int checksum : new int[] {0, 7, 250, 251, 255}) {
            due("a checksum of " + checksum, raw(8, (char) checksum + "\0\1").expectedChecksum(0), 7);
        }

        about = "promises 24 to 26: fragments of all blocks, those with a wrong checksum, and the first one";
        due("an empty log", fragmentNumbers(raw(8, "")), "0 0 -1");
        due("no fragments", fragmentNumbers(raw(8, "\0\0\0\0\0\0\0\0\0")), "0 0 -1");
        due("all right", fragmentNumbers(raw(8, full("ab") + full("") + full("c"))), "3 0 -1");
        due("the first is wrong", fragmentNumbers(raw(8, broken(full("ab")) + full("") + full("c"))), "3 1 0");
        due("the last is wrong", fragmentNumbers(raw(8, full("ab") + full("") + broken(full("c")))), "3 1 8");
        due("all wrong", fragmentNumbers(raw(8, broken(full("ab")) + broken(full("")) + broken(full("c")))), "3 3 0");
        due("wrong behind what no reader reads", fragmentNumbers(raw(16, broken(full("a")) + full("b") + broken(full("c")))), "3 2 0");
        due("not behind a wrong type", fragmentNumbers(raw(16, full("a") + "\0\0\0" + broken(full("c")))), "1 0 -1");
        due("a cut one", fragmentNumbers(raw(8, full("abcde") + broken(full("a")).substring(0, 3))), "1 0 -1");
        FramedLog most = raw(32, broken(full("")).repeat(10) + "\0\0" + broken(full("")).repeat(10));
        due("as many as fit", fragmentNumbers(most), "20 20 0");

        about = "promise 27: the bytes after its last fragment (all bytes of the block if it has no fragment)";
        String[] wanted = {"0", "1", "2", "3", "0", "0", "4"};
        for (int i = 0; i < TAILS.length; i++) due("tail " + i, "" + raw(8, TAILS[i]).bytesAfterFragments(0), wanted[i]);
        due("no fragment", raw(8, "\0\0\0\0\0\0\0\0").bytesAfterFragments(0), 8);
        due("one byte", raw(8, full("abcde") + "\0").bytesAfterFragments(1), 1);
        due("a whole shorter block", raw(8, full("abcde") + full("a")).bytesAfterFragments(1), 0);
        due("a shorter block with a cut fragment", raw(8, full("abcde") + full("") + full("a").substring(0, 3)).bytesAfterFragments(1), 3);
        due("a shorter block before its padding", raw(8, full("abc") + "\0").bytesAfterFragments(0), 1);
        due("32", raw(32, "\0".repeat(33)).bytesAfterFragments(0) + raw(32, "\0".repeat(33)).bytesAfterFragments(1), 33);
    }

    private static String fragmentNumbers(FramedLog x) {
        return x.fragmentCount() + " " + x.wrongChecksums() + " " + x.firstWrongChecksum();
    }

    private static void recordQuestions() {
        about = "promises 28 to 32: the readable records";
        due("none in an empty log", raw(8, "").recordCount(), 0);
        due("none", raw(8, first("abcde") + middle("")).recordCount(), 0);
        FramedLog most = raw(32, (full("").repeat(10) + "\0\0").repeat(2) + full(""));
        due("as many as fit", most.recordCount() + " " + most.recordStart(20) + " " + most.recordStart(10) + " " + most.recordLength(20), "21 64 32 0");
        FramedLog x = raw(8, first("") + middle("") + "\0\0" + middle("abcde") + last("") + full("z"));
        due("a record with empty fragments", x.recordStart(0) + " " + x.recordLength(0) + " " + x.recordFragments(0) + " " + record(x, 0), "0 5 4 abcde");
        due("the next one", x.recordStart(1) + " " + x.recordLength(1) + " " + x.recordFragments(1) + " " + record(x, 1), "19 1 1 z");
        FramedLog y = raw(32, first(A29) + middle("b".repeat(29)) + last("c"));
        due("more than 40 bytes", y.recordLength(0) + " " + y.recordFragments(0) + " " + record(y, 0), "59 3 " + A29 + "b".repeat(29) + "c");
        due("bytes", record(raw(8, full("\0\u00ff\u0080")), 0), "\0\u00ff\u0080");
    }

    private static void longestRecord() {
        about = "promise 33: the one with the smallest number if several have as many; NONE if there are none";
        due("none", raw(8, "").longestRecord(), -1);
        due("none readable", raw(8, broken(full("abc"))).longestRecord(), -1);
        due("the only one", raw(8, full("a")).longestRecord(), 0);
        due("the last", loaded("block 32;record a;record bb;record ccc;").longestRecord(), 2);
        due("the first", loaded("block 32;record ccc;record bb;record a;").longestRecord(), 0);
        due("as many", loaded("block 32;record a;record bb;record c;record dd;record ee;").longestRecord(), 1);
        due("all as many", loaded("block 32;record a;record b;record c;").longestRecord(), 0);
        due("0 bytes and 1 byte", raw(8, full("") + full("a")).longestRecord(), 1);
        due("0 bytes each", raw(8, full("") + full("")).longestRecord(), 0);
        due("over several fragments", loaded("block 8;record abcde;record abcdef;").longestRecord(), 1);
    }

    private static String kinds(FramedLog x) {
        due("the sum", x.readableBytes() + x.paddingBytes() + x.unreadableBytes(), x.logLength());
        return x.readableBytes() + " " + x.paddingBytes() + " " + x.unreadableBytes();
    }

    private static void bytesByKind() {
        about = "promises 34 to 36: readableBytes, paddingBytes and unreadableBytes";
        due("an empty log", kinds(raw(8, "")), "0 0 0");
        String[] wanted = {"8 0 0", "7 1 0", "6 2 0", "5 2 1", "8 0 0", "5 2 1", "4 2 2"};
        for (int i = 0; i < TAILS.length; i++) {
            due("tail " + i, kinds(raw(8, TAILS[i])), wanted[i]);
            due("tail " + i + " before another block", kinds(raw(8, TAILS[i] + full("abcde"))), twice(wanted[i]));
        }
        about = "promise 35: fewer than 3 bytes left to the end of the block (of its full size, also for a shorter last block)";
        String[] wantedByLength = {"0 0 0", "0 0 1", "0 0 2", "0 0 3", "0 0 4", "0 0 5", "0 0 6", "0 1 6", "0 2 6", "0 2 7"};
        for (int length = 0; length <= 9; length++) due("a log of " + length, kinds(raw(8, "\0".repeat(length))), wantedByLength[length]);
        String[] readableByLength = {"5 0 0", "5 0 1", "5 1 1", "5 2 1"};
        for (int length = 5; length <= 8; length++) {
            due("a log of " + length, kinds(raw(8, (full("ab") + "\0\0\0").substring(0, length))), readableByLength[length - 5]);
        }
        about = "promise 35: and that do not belong to fragments of readable records";
        due("a broken fragment to the end", kinds(raw(8, broken(full("abcde")))), "0 2 6");
        due("an orphan to the end", kinds(raw(8, last("abcde") + full("z"))), "4 2 6");
        due("a dropped FIRST", kinds(raw(8, first("abcde") + full("z"))), "4 2 6");
        due("a record without an end", kinds(raw(8, first("abcde") + middle("abcd") + "\0")), "0 4 12");
        due("1 byte of a readable fragment", kinds(raw(8, full("abcd") + "\0")), "7 1 0");
        due("a fragment of no bytes at the end", kinds(raw(8, first("ab") + last(""))), "8 0 0");
        about = "promise 34: including headers";
        due("several fragments", kinds(raw(8, first("abcde") + middle("abcde") + last("a"))), "20 0 0");
        due("a full log", kinds(loaded(FULL_TEXT)), "400 0 0");
        due("padding of 32", kinds(loaded("block 32;record aaaaaaaaaaaaaaaaaaaaaaaaaaa;record b;")), "34 2 0");
    }

    /** The kinds of a block, and a readable block of 8 bytes behind it. */
    private static String twice(String kinds) {
        String[] three = kinds.split(" ");
        return Integer.parseInt(three[0]) + 8 + " " + three[1] + " " + three[2];
    }

    private static void shares() {
        about = "promise 37: 0.0f if the log is empty";
        due("an empty log", raw(8, "").sharePayload(), 0.0f);
        due("no readable records", raw(8, "\0\0\0").sharePayload(), 0.0f);
        due("records of 0 bytes", raw(8, full("")).sharePayload(), 0.0f);
        due("two fifths", loaded("block 8;record ab;").sharePayload(), 2.0f / 5.0f);
        due("a float, not a double", (double) loaded("block 16;record aaa;record bbbb;").sharePayload(), (double) (7.0f / 13.0f));
        due("a full log", loaded(FULL_TEXT).sharePayload(), 361.0f / 400.0f);
        due("the whole length counts", raw(8, full("a") + "\0\0\0\0\0").sharePayload(), 1.0f / 9.0f);

        about = "promise 38: 0.0 if there are none";
        due("an empty log", raw(8, "").meanRecordLength(), 0.0);
        due("no readable records", raw(8, "\0\0\0").meanRecordLength(), 0.0);
        due("records of 0 bytes", raw(8, full("")).meanRecordLength(), 0.0);
        due("a double, not a float", loaded("block 32;record a;record bb;record bb;").meanRecordLength(), 5.0 / 3.0);
        due("a full log", loaded(FULL_TEXT).meanRecordLength(), 361.0 / 13.0);
        due("one record", loaded("block 8;record " + A40 + ";").meanRecordLength(), 40.0);
    }

    private static String next(FramedLog x) {
        return x.recordsLeft(0) + " " + x.nextRecordLength(0) + " " + x.nextRecordStart(0) + " " + x.offsetAfterNext(0) + " " + x.problemsBeforeNext(0);
    }

    private static void searchQuestions() {
        about = "promises 39 to 43: NONE if the search fails";
        due("an empty log", next(raw(8, "")), "0 -1 -1 -1 -1");
        due("a cut record", next(raw(8, full("abc").substring(0, 5))), "0 -1 -1 -1 -1");
        due("problems and no record", next(raw(8, broken(full("abcde")) + last("a"))), "0 -1 -1 -1 -1");
        FramedLog end = raw(8, full("a"));
        end.read(0);
        due("at the end", next(end), "0 -1 -1 -1 -1");

        about = "promises 39 to 43: the record that the reader would read next";
        due("one of 0 bytes at the offset 0", next(raw(8, full(""))), "1 0 0 3 0");
        due("behind padding", nextAfterOne(raw(8, full("abc") + "\0\0" + full("ab"))), "1 2 8 13 0");
        due("the first fragment of several", next(raw(8, first("abcde") + last("f"))), "1 6 0 12 0");
        due("behind problems of each kind", next(raw(8, broken(full("abcde")) + last("abcde") + first("abcde") + first("abcde") + last("f") + full("g"))),
                "2 6 24 36 3");
        due("from the middle", nextAfterOne(loaded("block 8;record a;record b;record c;reader r;")), "2 1 4 8 0");
        FramedLog cut = loaded("block 8;record abcdef;reader r;read r 1;cut 10;record z;");
        due("from an offset that a cut has moved", counts(cut, 0) + ", " + next(cut), "10 1 0 0 0, 1 1 10 14 0");
    }

    private static String nextAfterOne(FramedLog x) {
        x.read(0);
        return next(x);
    }

    private static void slowestReader() {
        about = "promise 44: the smallest number if several have it; NONE if there are no readers";
        due("no readers", loaded("block 8;record a;").slowestReader(), -1);
        due("one reader", loaded("block 8;record a;reader r;read r 1;").slowestReader(), 0);
        String four = "block 8;record a;record b;record c;reader p;reader q;reader r;reader s;";
        due("all at 0", loaded(four).slowestReader(), 0);
        due("the last", loaded(four + "read p 1;read q 1;read r 1;").slowestReader(), 3);
        due("the second and the third", loaded(four + "read p 2;read q 1;read r 1;read s 3;").slowestReader(), 1);
        FramedLog x = loaded(FULL_TEXT + "reader r;reader s;");
        x.seek(0, 13);
        x.seek(1, 13);
        due("all at 400", x.readerOffset(0) + " " + x.readerOffset(1) + " " + x.slowestReader(), "400 400 0");
    }

    private static void costs() {
        about = "promises 45 and 46: lengths 1 and 40, with each number of bytes left in the block";
        String[] wanted = {"4 1, 64 8", "5 1, 65 8", "6 1, 66 8", "7 2, 67 9", "4 1, 67 9"};
        for (int left = 0; left <= 4; left++) {
            FramedLog x = loaded("block 8;record " + "a".repeat(5 - left) + ";");
            due(left + " left", x.writeCost(1) + " " + x.fragmentsFor(1) + ", " + x.writeCost(40) + " " + x.fragmentsFor(40), wanted[left]);
        }
        due("an empty log", raw(8, "").writeCost(1) + " " + raw(8, "").writeCost(5) + " " + raw(8, "").writeCost(6), "4 8 12");
        due("blocks of 32", raw(32, "").writeCost(29) + " " + raw(32, "").writeCost(30) + " " + raw(32, "").writeCost(40), "32 36 46");
        due("blocks of 32", raw(32, "").fragmentsFor(29) + " " + raw(32, "").fragmentsFor(30), "1 2");
        about = "promise 45: whether it fits into 400 bytes or not";
        FramedLog full = loaded(FULL_TEXT);
        due("a full log", full.writeCost(1) + " " + full.writeCost(13) + " " + full.writeCost(14) + " " + full.writeCost(40), "4 16 20 46");
        due("a full log", full.fragmentsFor(1) + " " + full.fragmentsFor(13) + " " + full.fragmentsFor(14), "1 1 2");
        about = "promises 45, 46 and 50: the costs are those of the writing";
        for (int cut = 0; cut <= 34; cut++) {
            for (int length : new int[] {1, 4, 5, 6, 39, 40}) {
                FramedLog x = loaded("block 11;record " + A40 + ";cut " + cut + ";");
                String told = x.writeCost(length) + " " + x.fragmentsFor(length);
                int fragments = writes(x, "b".repeat(length));
                due(length + " bytes after " + cut, told, x.logLength() - cut + " " + fragments);
            }
        }
    }

    private static void ifDamaged() {
        about = "promise 47: if the byte at this offset was combined with 255 by exclusive or";
        String[] logs = {full("abc") + "\0\0" + full("d"), first("abcde") + last("f") + full("g"), broken(full("abcde")) + full("g"),
                (char) (full("a").charAt(0) ^ 255) + full("a").substring(1) + full("b"), "\0", full(""), full("ab") + full("").substring(0, 2)};
        for (String log : logs) {
            int weakest = -1, fewest = MAX;
            for (int offset = 0; offset < log.length(); offset++) {
                FramedLog x = raw(8, log);
                int told = x.recordsIfDamaged(offset);
                x.damage(offset, 255);
                due("recordsIfDamaged(" + offset + ") of " + log.length() + " bytes", told, x.recordCount());
                if (told < fewest) {
                    weakest = offset;
                    fewest = told;
                }
            }
            about = "promise 48: the smallest offset if several have it";
            due("weakestOffset of " + log.length() + " bytes", raw(8, log).weakestOffset(), weakest);
            about = "promise 47";
        }
        due("damage that repairs", raw(8, logs[3]).recordCount() + " " + raw(8, logs[3]).recordsIfDamaged(0), "0 2");
        due("damage to padding", raw(8, logs[0]).recordsIfDamaged(6) + " " + raw(8, logs[0]).recordsIfDamaged(7), "2 2");

        about = "promise 48: NONE if the log is empty";
        due("an empty log", raw(8, "").weakestOffset(), -1);
        due("no record", raw(8, "\0").weakestOffset(), 0);
        due("the second block", raw(8, full("abcde") + full("a") + full("b")).weakestOffset(), 8);
        due("a full log", loaded(FULL_TEXT).weakestOffset(), 0);
    }

    private static void ifTruncated() {
        about = "promise 49: if the log was truncated to this length, 0 to logLength";
        String[] logs = {full("abc") + "\0\0" + full("d"), first("abcde") + last("f") + full("g"), broken(full("abcde")) + full("g"), ""};
        for (String log : logs) {
            for (int length = 0; length <= log.length(); length++) {
                FramedLog x = raw(8, log);
                int told = x.recordsIfTruncated(length);
                x.truncateLog(length);
                due("recordsIfTruncated(" + length + ") of " + log.length() + " bytes", told, x.recordCount());
            }
        }
        FramedLog full = loaded(FULL_TEXT);
        due("a full log", full.recordsIfTruncated(400) + " " + full.recordsIfTruncated(399) + " " + full.recordsIfTruncated(384) + " "
                + full.recordsIfTruncated(383) + " " + full.recordsIfTruncated(0), "13 12 12 11 0");
    }

    private static void writeRecord() {
        about = "promise 50: the whole input buffer is the record, whatever its bytes are; it is empty afterwards";
        for (int b = 0; b <= 255; b++) {
            FramedLog x = loaded("block 8;");
            due("a record of " + b, writes(x, "" + (char) b) + " " + (int) record(x, 0).charAt(0) + " " + x.isChecksumRight(0), "1 " + b + " true");
        }
        FramedLog x = loaded("block 8;");
        due("a text is a record, too", writes(x, "block 9; record\n a;") + " " + record(x, 0), "4 block 9; record\n a;");
        thrown("the input is empty", ARGUMENT, x::writeRecord);
        about = "promise 50: returns the number of fragments";
        int[][] lengthAndFragments = {{1, 1}, {5, 1}, {6, 2}, {10, 2}, {11, 3}, {40, 8}};
        for (int[] pair : lengthAndFragments) due("writeRecord of " + pair[0], writes(loaded("block 8;"), "z".repeat(pair[0])), pair[1]);
        due("with an empty first one", writes(loaded("block 8;record ab;"), "zzzzz"), 2);
    }

    private static void addReader() {
        about = "promise 51: returns the number of the new reader, 4 at the most";
        FramedLog x = loaded("block 8;record a;");
        String[] names = {"a", "zz", "abc", "abcd"};
        for (int i = 0; i < 4; i++) {
            type(x, names[i]);
            due("addReader", x.addReader() + " " + x.readerCount() + " " + name(x, i) + " " + counts(x, i), i + " " + (i + 1) + " " + names[i] + " 0 0 0 0 0");
            thrown("the input is empty", ARGUMENT, x::addReader);
        }
        about = "promise 51: at the offset 0, with counts of its own";
        FramedLog y = raw(8, broken(full("abcde")) + last("abcde") + full("z"));
        y.read(0);
        type(y, "s");
        y.addReader();
        due("the new reader", counts(y, 1), "0 0 0 0 0");
        due("the earlier one", counts(y, 0), "20 1 1 0 1");
    }

    private static void read() {
        about = "promise 52: the bytes of the record are written into the output; the previous output is discarded";
        FramedLog x = raw(8, full("abc") + "\0\0" + full("") + full("z") + "\1" + first("\0\u00ff\u0080xy") + last("z"));
        due("read", x.read(0) + output(x, 3), "3abc");
        due("read of 0 bytes", x.read(0), 0);
        thrown("nothing is left of the output", ELEMENT, () -> x.outputByte(0));
        due("read", x.read(0) + output(x, 1), "1z");
        due("read of two fragments", x.read(0) + output(x, 6), "6\0\u00ff\u0080xyz");
        thrown("behind the output", ELEMENT, () -> x.outputByte(6));
        FramedLog y = raw(32, first(A29) + middle(A29) + middle(A29) + last("b"));
        due("more than 40 bytes", y.read(0) + " " + y.outputByte(87) + " " + y.outputByte(86), "88 98 97");
        thrown("behind the output", ELEMENT, () -> y.outputByte(88));
        FramedLog z = loaded("block 8;record abc;record d;reader r;reader s;");
        z.describeBlock(0);
        z.read(1);
        due("a reader alone", counts(z, 0) + ", " + counts(z, 1), "0 0 0 0 0, 6 1 0 0 0");
    }

    private static void seek() {
        about = "promise 53: a block, or blockCount for the end of the log; the start of the block, or logLength";
        for (int length = 0; length <= 17; length++) {
            FramedLog x = loaded("block 8;record " + A40 + ";cut " + length + ";reader r;");
            int blocks = x.blockCount();
            for (int block = 0; block <= blocks; block++) {
                due("seek(0, " + block + ") in a log of " + length, x.seek(0, block) + " " + x.readerOffset(0),
                        block == blocks ? length + " " + length : 8 * block + " " + 8 * block);
            }
        }
        FramedLog full = loaded(FULL_TEXT + "reader r;");
        due("the end of 400", full.seek(0, 13) + " " + full.seek(0, 12), "400 384");
        about = "promise 53: its counts do not change";
        FramedLog y = raw(8, broken(full("abcde")) + last("abcde") + full("z"));
        y.read(0);
        y.seek(0, 0);
        due("counts", counts(y, 0), "0 1 1 0 1");
        y.seek(0, 3);
        due("counts", counts(y, 0), "20 1 1 0 1");
    }

    private static void truncateLog() {
        about = "promise 54: 0 to logLength, returns the number of bytes that were removed";
        for (int length = 0; length <= 9; length++) {
            FramedLog x = loaded("block 8;record abcdef;cut 9;");
            due("truncateLog(" + length + ")", x.truncateLog(length) + " " + x.logLength(), 9 - length + " " + length);
        }
        due("of an empty log", loaded("block 8;").truncateLog(0), 0);
        due("of a full log", loaded(FULL_TEXT).truncateLog(0) + " " + loaded(FULL_TEXT).truncateLog(400), "400 0");
        about = "section 5: truncateLog moves the offset of a reader that is greater than the new length to the new length";
        for (int length = 3; length <= 5; length++) {
            FramedLog x = loaded("block 8;record a;record b;reader r;reader s;reader t;read r 2;read s 1;");
            x.truncateLog(length);
            due("truncateLog(" + length + ")", counts(x, 0) + ", " + counts(x, 1) + ", " + counts(x, 2),
                    length + " 2 0 0 0, " + Math.min(length, 4) + " 1 0 0 0, 0 0 0 0 0");
        }
        about = "promise 50: what is written after truncateLog follows the new end";
        FramedLog x = loaded("block 8;record abcde;cut 7;record z;");
        due("bytes", bytes(x), bytes(raw(8, full("abcde").substring(0, 7) + "\0" + full("z"))));
    }

    private static void damageAndRepair() {
        about = "promise 55: a byte of the log is combined with the mask, 1 to 255; returns the new byte";
        for (int mask : new int[] {1, 2, 128, 254, 255}) {
            FramedLog x = raw(8, "\0\u00ff\u0055");
            due("damage by " + mask, x.damage(0, mask) + " " + x.damage(1, mask) + " " + x.damage(2, mask),
                    mask + " " + (255 - mask) + " " + (0x55 ^ mask));
            due("the log", bytes(x), mask + " " + (255 - mask) + " " + (0x55 ^ mask));
        }
        about = "promise 56: writes the expected checksum, returns the previous one";
        for (int checksum : new int[] {0, 1, 10, 250, 251, 255}) {
            FramedLog x = raw(8, (char) checksum + "\1\1\0" + full("z"));
            due("repair of " + checksum, x.repair(0) + " " + x.logByte(0) + " " + x.isChecksumRight(0) + " " + x.recordCount(),
                    checksum + " 10 true 2");
        }
        FramedLog x = raw(8, full("abcde") + broken(last("")));
        due("the last fragment", x.repair(8) + " " + x.logByte(8), (28 ^ 1) + " 28");
    }

    private static void dropBlocks() {
        about = "promise 57: returns the new length of the log";
        for (int length = 8; length <= 25; length++) {
            for (int blocks = 1; blocks <= length / 8; blocks++) {
                FramedLog x = loaded("block 8;record " + A40 + ";cut " + length + ";");
                String rest = bytes(x).replaceFirst("^(\\d+ ?){" + 8 * blocks + "}", "");
                due("dropBlocks(" + blocks + ") of " + length, x.dropBlocks(blocks) + " " + bytes(x), length - 8 * blocks + " " + rest);
            }
        }
        about = "promise 57: the offset of each reader becomes less by the removed bytes, but at least 0";
        String text = "block 8;record abc;record d;record efghijk;reader p;reader q;reader r;reader s;read q 1;read r 2;read s 3;";
        FramedLog x = loaded(text);
        due("offsets before", x.readerOffset(0) + " " + x.readerOffset(1) + " " + x.readerOffset(2) + " " + x.readerOffset(3), "0 6 12 28");
        x.dropBlocks(1);
        due("1 block", counts(x, 0) + ", " + counts(x, 1) + ", " + counts(x, 2) + ", " + counts(x, 3),
                "0 0 0 0 0, 0 1 0 0 0, 4 2 0 0 0, 20 3 0 0 0");
        FramedLog y = loaded(text);
        y.dropBlocks(3);
        due("3 blocks", y.readerOffset(0) + " " + y.readerOffset(1) + " " + y.readerOffset(2) + " " + y.readerOffset(3) + " " + y.logLength(), "0 0 0 4 4");
        FramedLog z = loaded("block 8;record abcde;record fghij;reader r;read r 1;");
        z.dropBlocks(1);
        due("an offset that becomes 0", z.readerOffset(0) + " " + z.read(0) + " " + z.writtenRecords(), "0 5 2");
    }

    private static String compacted(FramedLog x) {
        return x.compact() + ": " + bytes(x) + ": " + counts(x, 0);
    }

    private static void compact() {
        about = "promise 58: all readable records are written one after the other, as by the writer";
        due("an empty log", compacted(raw(8, "")), "0: : 0 0 0 0 0");
        due("no readable record", compacted(raw(8, broken(full("abcde")) + last("a"))), "12: : 0 0 0 0 0");
        due("nothing to gain", compacted(raw(8, full("abc") + "\0\0" + full("d"))), "0: " + bytes(raw(8, full("abc") + "\0\0" + full("d"))) + ": 0 0 0 0 0");
        due("padding becomes 0", compacted(raw(8, full("abc") + "\1\2" + full("d"))), "0: " + bytes(raw(8, full("abc") + "\0\0" + full("d"))) + ": 0 0 0 0 0");
        due("padding at the end", compacted(raw(8, full("abc") + "\0\0")), "2: " + bytes(raw(8, full("abc"))) + ": 0 0 0 0 0");
        due("a broken block", compacted(raw(8, broken(full("abcde")) + full("fg"))), "8: " + bytes(raw(8, full("fg"))) + ": 0 0 0 0 0");
        due("a broken FIRST and its LAST", compacted(raw(8, broken(first("abcde")) + last("x") + full("y"))), "12: " + bytes(raw(8, full("y"))) + ": 0 0 0 0 0");
        due("several fragments become FULL", compacted(raw(16, first("a") + middle("") + last("b"))), "6: " + bytes(raw(16, full("ab"))) + ": 0 0 0 0 0");
        due("another division", compacted(raw(8, broken(full("abcde")) + full("ab") + "\0\0\0" + full("cdefg"))),
                "8: " + bytes(raw(8, full("ab") + first("") + last("cdefg"))) + ": 0 0 0 0 0");
        due("a record of 0 bytes", compacted(raw(8, first("") + last("") + "\0\0")), "5: " + bytes(raw(8, full(""))) + ": 0 0 0 0 0");
        due("a record of more than 40 bytes", compacted(raw(32, broken(full(A29)) + first(A29) + middle(A29) + last("b"))),
                "32: " + bytes(raw(32, first(A29) + middle(A29) + last("b"))) + ": 0 0 0 0 0");

        about = "promise 58: a reader moves to the new start of the first record whose old start was not less than its offset, or to the new length";
        String log = broken(full("abcde")) + full("abc") + "\0\0" + full("de") + first("") + last("fgh") + "\0";
        // the old starts are 8, 16 and 21, the new ones 0, 8 and 13; the log becomes shorter from 31 to 22
        int[][] blockAndMoved = {{0, 0}, {1, 0}, {2, 8}, {3, 22}, {4, 22}};
        for (int[] pair : blockAndMoved) {
            FramedLog x = raw(8, log);
            x.seek(0, pair[0]);
            due("from block " + pair[0], x.compact() + " " + x.readerOffset(0) + " " + x.logLength(), "9 " + pair[1] + " 22");
        }
        FramedLog read = raw(8, log);
        read.read(0);
        due("from the end of a record before padding", read.readerOffset(0) + " " + read.compact() + " " + counts(read, 0), "14 9 8 1 1 0 0");
        FramedLog second = raw(8, log);
        second.read(0);
        second.read(0);
        due("from a start", second.readerOffset(0) + " " + second.compact() + " " + counts(second, 0), "21 9 13 2 1 0 0");
        FramedLog third = raw(8, log);
        for (int i = 0; i < 3; i++) third.read(0);
        due("from the end", third.readerOffset(0) + " " + third.compact() + " " + counts(third, 0), "30 9 22 3 1 0 0");

        about = "promise 58: the number of written records does not change";
        FramedLog w = loaded("block 8;record abcde;record f;damage 0 1;");
        w.compact();
        due("writtenRecords", w.writtenRecords() + " " + w.recordCount(), "2 1");
        due("a full log", loaded(FULL_TEXT).compact(), 0);
    }

    /**
     * The document lets compact answer a negative number and refuse a log that would become longer than 400 bytes. The
     * writer needs no more than any other division of the same records, so that we know no log where either is due.
     */
    private static void compactKeepsTheRecords() {
        about = "promise 58: returns the number of bytes by which the log has become shorter";
        for (int a = 0; a <= 5; a++) {
            for (int b = 0; b <= 5; b++) {
                for (int c = 0; c <= 5; c++) {
                    FramedLog x = raw(8, block(full("a".repeat(a))) + block(first("b".repeat(b))) + block(last("c".repeat(c))) + full("de"));
                    String records = allRecords(x);
                    int gained = x.compact();
                    due("the length with " + a + ", " + b + " and " + c, x.logLength(), 29 - gained);
                    due("the records with " + a + ", " + b + " and " + c, allRecords(x), records);
                    due("the rest with " + a + ", " + b + " and " + c, x.unreadableBytes() + " " + x.compact(), "0 0");
                }
            }
        }
    }

    private static String block(String fragments) {
        return fragments + "\0".repeat(8 - fragments.length());
    }

    private static String allRecords(FramedLog x) {
        StringBuilder s = new StringBuilder();
        int count = x.recordCount();
        for (int i = 0; i < count; i++) s.append(record(x, i)).append(';');
        return s.toString();
    }

    private static void describeBlock() {
        about = "promise 59: a description of its fragments, separated by spaces";
        String[] wanted = {"F5", "F4 +1", "F3 +2", "F2 +3", "F2 F0", "F2 I0", "F1 +4"};
        for (int i = 0; i < TAILS.length; i++) due("tail " + i, described(raw(8, TAILS[i]), 0), wanted[i]);
        due("each type", described(raw(32, full("a") + first("bc") + middle("") + last("def")), 0), "F1 I2 M0 L3");
        due("each type, wrong", described(raw(32, broken(full("a")) + broken(first("bc")) + broken(middle("")) + broken(last("def"))), 0), "F1! I2! M0! L3!");
        due("as long as can be", described(raw(32, broken(full("")).repeat(10) + "\0\0"), 0), "F0!" + " F0!".repeat(9) + " +2");
        about = "promise 59: the byte + and their number follow, after a space if there are fragments";
        for (int length = 1; length <= 32; length++) due("no fragment", described(raw(32, "\0".repeat(length)), 0), "+" + length);
        for (int length = 0; length <= 29; length++) {
            due("one fragment of " + length, described(raw(32, full("x".repeat(length)) + "\0".repeat(29 - length)), 0), length == 29 ? "F29" : "F" + length + " +" + (29 - length));
        }
        due("a wrong one and a rest", described(raw(8, broken(full("ab")) + "\0"), 0), "F2! +1");
        due("the last block", described(raw(8, full("abcde") + "\0"), 1), "+1");
        about = "promise 59: the previous output is discarded; returns the length of the output";
        FramedLog x = raw(8, full("ab") + full("") + full(""));
        due("describeBlock", x.describeBlock(0) + " " + x.describeBlock(1) + " " + output(x, 2), "5 2 F0");
        thrown("behind the output", ELEMENT, () -> x.outputByte(2));
    }

    private static void slots() {
        about = "promise 61: returns the length of the log; the previous content is discarded";
        FramedLog x = loaded("block 8;record a;reader r;");
        String first = all(x);
        due("save", x.save(0) + " " + x.save(1), "4 4");
        writes(x, "bc");
        x.read(0);
        String second = all(x);
        due("save again", x.save(1), 12);
        x.truncateLog(0);
        due("an empty log is kept, too", x.truncateLog(0) + " " + x.logLength(), "0 0");
        due("restore of the earlier", x.restore(0) + " " + all(x).equals(first), "4 true");
        due("restore of the later", x.restore(1) + " " + all(x).equals(second), "12 true");

        about = "promise 62: the slot keeps its content";
        x.damage(0, 255);
        x.seek(0, 0);
        type(x, "new");
        x.addReader();
        due("restore again", x.restore(1) + " " + all(x).equals(second), "12 true");
        x.dropBlocks(1);
        x.compact();
        due("and again", x.restore(1) + " " + all(x).equals(second), "12 true");
        due("the other", x.restore(0) + " " + all(x).equals(first), "4 true");

        about = "section 5: the slots are not part of the state";
        FramedLog y = loaded("block 8;record a;");
        y.save(0);
        y.truncateLog(0);
        y.save(0);
        due("undo does not bring back a slot", y.undo() + " " + y.logLength() + " " + y.restore(0), "1 4 0");
        type(y, "block 9;");
        y.load();
        due("load does not empty a slot", y.restore(0) + " " + y.blockSize(), "0 8");
        y.undo();
        due("the block size", y.blockSize(), 9);
        due("the whole log", loaded(FULL_TEXT).save(1), 400);
    }

    private static void undo() {
        about = "promise 64: the number of remembered undoable calls, at most 8";
        FramedLog x = raw(8, "\0");
        while (x.undoDepth() > 0) x.undo();
        for (int i = 1; i <= 20; i++) {
            x.damage(0, 1);
            due("undoDepth after " + i, x.undoDepth(), Math.min(i, 8));
        }
        about = "promise 63: the number of remembered calls that are left";
        for (int i = 7; i >= 0; i--) due("undo", x.undo() + " " + x.undoDepth(), i + " " + i);
        thrown("one more", STATE, x::undo);
        thrown("and another", STATE, x::undo);
        due("undoDepth", x.undoDepth(), 0);

        about = "section 5: the latest 8 undoable calls are remembered, whatever was undone before";
        for (int before = 0; before <= 12; before++) {
            for (int undone = 0; undone <= Math.min(before, 8); undone++) {
                for (int after : new int[] {0, 1, 7, 8, 9}) undoBetween(before, undone, after);
            }
        }
    }

    /** The first byte of the log tells the states apart. */
    private static void undoBetween(int before, int undone, int after) {
        FramedLog x = new FramedLog();
        List<Integer> due = new ArrayList<>();
        for (int i = 0; i < before; i++) change(x, due, 10 + i);
        for (int i = 0; i < undone; i++) takeBack(x, due);
        for (int i = 0; i < after; i++) change(x, due, 40 + i);
        while (!due.isEmpty()) takeBack(x, due);
        thrown("undo after " + before + ", " + undone + " and " + after, STATE, x::undo);
    }

    private static void change(FramedLog x, List<Integer> due, int value) {
        due.add(x.logByte(0));
        if (due.size() > 8) due.remove(0);
        x.damage(0, x.logByte(0) ^ value);
    }

    private static void takeBack(FramedLog x, List<Integer> due) {
        int value = due.remove(due.size() - 1);
        due("undo and the state", x.undo() + " " + x.logByte(0), due.size() + " " + value);
    }

    /** A reader that has met a damage problem, two incomplete ones and three orphans. */
    private static FramedLog troubled() {
        FramedLog x = raw(8, broken(full("abcde")) + middle("abcde") + last("abcde") + last("abcde") + first("abcde") + first("abcde") + full("xy"));
        x.read(0);
        return x;
    }

    private static void countsAreKept() {
        about = "section 5: the state is the block size, the log, the readers with their counts and the number of written records";
        String state = all(troubled());
        FramedLog x = troubled();
        x.save(1);
        type(x, "block 9;reader r;reader s;record a;");
        x.load();
        due("undo of load", (x.undo() < 8) + " " + all(x).equals(state), "true true");
        type(x, "block 9;");
        x.load();
        x.restore(1);
        due("restore", all(x), state);
        type(x, "block 9;reader s;");
        x.load();
        due("a reader in the place of another one", all(x), "9||0|s 0 0 0 0 0");
    }

    /** 133 fragments without payload, as many as 400 bytes can hold, and one byte more. */
    private static FramedLog crowded(int firstType, int type, int lastType) {
        FramedLog x = loaded("block 30;reader r;");
        for (int block = 0; block <= 13; block++) {
            String rest = block < 13 ? fragment(type, "").repeat(9) : fragment(type, "") + fragment(lastType, "") + "\0";
            writes(x, rest);
            x.damage(30 * block + 1, rest.length());
            int opening = block == 0 ? firstType : type;
            if (opening != FramedLog.FULL) x.damage(30 * block + 2, FramedLog.FULL ^ opening);
            x.repair(30 * block);
        }
        return x;
    }

    private static void fullOfFragments() {
        int whole = FramedLog.FULL, opening = FramedLog.FIRST, middle = FramedLog.MIDDLE, closing = FramedLog.LAST;
        about = "section 1: at most 400 bytes, with as many records as they can hold";
        FramedLog x = crowded(whole, whole, whole);
        due("fragments", x.logLength() + " " + fragmentNumbers(x) + " " + x.bytesAfterFragments(13), "400 133 0 -1 1");
        due("records", x.recordCount() + " " + x.recordStart(132) + " " + x.recordLength(132) + " " + x.longestRecord() + " " + x.meanRecordLength(), "133 396 0 0 0.0");
        thrown("one more", INDEX, () -> x.recordStart(133));
        due("the next ones", next(x), "133 0 0 3 0");
        due("bytes", kinds(x), "399 0 1");
        due("damaged", x.recordsIfDamaged(0) + " " + x.recordsIfDamaged(398) + " " + x.recordsIfDamaged(399) + " " + x.weakestOffset(), "123 132 133 0");
        due("truncated", x.recordsIfTruncated(399) + " " + x.recordsIfTruncated(398), "133 132");
        x.seek(0, 13);
        due("compact", x.compact() + " " + x.recordCount() + " " + x.readerOffset(0) + " " + x.logLength(), "1 133 390 399");

        about = "section 3: one record with as many fragments as 400 bytes can hold";
        FramedLog one = crowded(opening, middle, closing);
        due("the record", one.recordCount() + " " + one.recordFragments(0) + " " + one.recordLength(0) + " " + one.recordStart(0), "1 133 0 0");
        due("bytes", kinds(one), "399 0 1");
        due("compact", one.compact() + " " + bytes(one), "397 " + bytes(raw(8, full(""))));

        about = "section 3: as many problems as 400 bytes can hold";
        FramedLog orphans = crowded(closing, closing, whole);
        due("orphans", next(orphans) + ", " + orphans.read(0) + " " + counts(orphans, 0), "1 0 396 399 132, 0 399 1 0 0 132");
        FramedLog incompletes = crowded(opening, opening, whole);
        due("incompletes", next(incompletes) + ", " + incompletes.read(0) + " " + counts(incompletes, 0), "1 0 396 399 132, 0 399 1 0 132 0");
        due("no record", crowded(middle, middle, middle).recordCount() + " " + next(crowded(opening, middle, middle)), "0 0 -1 -1 -1 -1");
    }

    private static void fullOfDamage() {
        about = "section 3: as many damage problems as 400 bytes can hold";
        FramedLog x = loaded("block 8;" + "record abcde;".repeat(44) + "reader r;");
        for (int i = 0; i < 6; i++) writes(x, "abcde");
        for (int block = 0; block < 49; block++) x.damage(8 * block, 1);
        due("the search", next(x), "1 5 392 400 49");
        due("read", x.read(0) + " " + counts(x, 0), "5 400 1 49 0 0");
        due("fragments", fragmentNumbers(x), "50 49 0");
        due("compact", x.compact() + " " + counts(x, 0), "392 8 1 49 0 0");
        x.damage(0, 1);
        due("compact again", x.compact() + " " + counts(x, 0), "8 0 1 49 0 0");
    }

    private static void fullOfOneRecord() {
        about = "section 3: one record of as many bytes as 400 can hold";
        FramedLog x = loaded(FULL_TEXT + "reader r;");
        for (int block = 0; block <= 12; block++) {
            int type = block == 0 ? FramedLog.FIRST : block == 12 ? FramedLog.LAST : FramedLog.MIDDLE;
            x.damage(32 * block + 2, FramedLog.FULL ^ type);
            x.repair(32 * block);
        }
        due("the record", x.recordCount() + " " + x.recordLength(0) + " " + x.recordFragments(0) + " " + x.recordByte(0, 347) + " " + x.recordByte(0, 348)
                + " " + x.recordByte(0, 360), "1 361 13 97 98 98");
        thrown("behind it", ELEMENT, () -> x.recordByte(0, 361));
        due("next", next(x), "1 361 0 400 0");
        due("read", x.read(0) + " " + x.outputByte(347) + " " + x.outputByte(348) + " " + x.outputByte(360), "361 97 98 98");
        thrown("behind the output", ELEMENT, () -> x.outputByte(361));
        due("compact", x.compact() + " " + counts(x, 0) + " " + x.recordLength(0) + " " + x.recordByte(0, 360), "0 400 1 0 0 0 361 98");
    }
}
