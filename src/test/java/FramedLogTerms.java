/** The sentences of the document's "Terms" that name a boundary, each with calls on both sides of it. */
public final class FramedLogTerms extends Checks {
    private static final int FULL = FramedLog.FULL, FIRST = FramedLog.FIRST, MIDDLE = FramedLog.MIDDLE, LAST = FramedLog.LAST;

    public static void main(String[] args) {
        calls();
        logAndBlocks();
        checksums();
        fragments();
        writing();
        readingSteps();
        readingResults();
        tokens();
        ranges();
        statements();
        errors();
        beforeTheFirstLoad();
        tellTheEnd();
    }

    private static void sentence(String words) {
        about = words;
    }

    private static void calls() {
        sentence("An object is used for at most 512 calls after it has been made.");
        FramedLog x = new FramedLog();
        for (int call = 1; call <= 510; call++) x.damage(0, 1);
        due("the 511th call", x.logByte(0), 147);
        due("the 512th call", x.undoDepth(), 8);
    }

    private static void logAndBlocks() {
        sentence("1: The log is a sequence of at most 400 bytes.");
        due("a log of 400", loaded(FULL_TEXT).logLength(), 400);
        due("writing to 400", writes(loaded(FULL_TEXT.substring(0, FULL_TEXT.indexOf("record b"))), "b".repeat(13)), 1);
        thrown("writing to 401", STATE, () -> writes(loaded(FULL_TEXT.substring(0, FULL_TEXT.indexOf("record b"))), "b".repeat(14)));

        sentence("1: A byte is a number from 0 to 255.");
        FramedLog b = loaded("block 16;reader r;");
        writes(b, "\0\1\u007f\u0080\u00fe\u00ff");
        due("the bytes", bytes(b), (7 + 18 + 2 + 3 * 127 + 4 * 128 + 5 * 254 + 6 * 255) % 251 + " 6 1 0 1 127 128 254 255");
        due("the record", record(b, 0), "\0\1\u007f\u0080\u00fe\u00ff");
        due("the output", output(b, b.read(0)), "\0\1\u007f\u0080\u00fe\u00ff");

        sentence("1: A block size of 8 to 32 bytes.");
        for (int size = 0; size <= 40; size++) {
            String text = "block " + size + ";";
            if (size < 8 || size > 32) error(text, 2, 6);
            else due(text, loaded(text).blockSize(), size);
        }

        sentence("1: Block k starts at the offset k * blockSize.");
        for (int size : new int[] {8, 13, 32}) {
            FramedLog x = loaded("block " + size + ";" + "record bbbbbbbbbbbbbbbbbbbb;".repeat(12) + "cut " + (5 * size + 1) + ";reader r;");
            for (int block = 0; block <= 5; block++) due("seek(0, " + block + ")", x.seek(0, block), block * size);
            due("behind the last block", x.seek(0, 6), 5 * size + 1);
        }

        sentence("1: The last block can be shorter.");
        int[][] lengthAndBlocks = {{0, 0}, {1, 1}, {7, 1}, {8, 1}, {9, 2}, {15, 2}, {16, 2}, {17, 3}};
        for (int[] pair : lengthAndBlocks) {
            due("blockCount of " + pair[0], loaded("block 8;record " + A40 + ";cut " + pair[0] + ";").blockCount(), pair[1]);
        }
        due("blockCount of 400 in 32s", loaded(FULL_TEXT).blockCount(), 13);
    }

    private static void checksums() {
        sentence("1: The checksum is the remainder of the sum divided by 251.");
        int[][] byteAndChecksum = {{0, 10}, {239, 249}, {240, 250}, {241, 0}, {242, 1}, {255, 14}};
        for (int[] pair : byteAndChecksum) {
            FramedLog x = loaded("block 8;");
            writes(x, "" + (char) pair[0]);
            due("checksum of " + pair[0], x.logByte(0) + " " + x.expectedChecksum(0) + " " + x.isChecksumRight(0), pair[1] + " " + pair[1] + " true");
        }
        FramedLog largest = loaded("block 32;");
        writes(largest, "\u00ff".repeat(29));
        due("the largest sum", largest.logByte(0), (7 + 3 * 29 + 255 * 29 * 30 / 2) % 251);
        due("251 is not the remainder 0", raw(8, (char) 251 + "\1\1\u00f1").isChecksumRight(0), false);
        due("the remainder 0", raw(8, "\0\1\1\u00f1").isChecksumRight(0), true);

        sentence("1: 7 * type + 3 * length + each byte multiplied by its position, where the first position is 1.");
        for (int type = FULL; type <= LAST; type++) {
            due("type " + type + ", no payload", raw(8, "\0\0" + (char) type).expectedChecksum(0), 7 * type);
            due("type " + type + ", a payload", raw(8, "\0\2" + (char) type + "ab").expectedChecksum(0), (7 * type + 6 + 97 + 2 * 98) % 251);
            due("type " + type + ", turned round", raw(8, "\0\2" + (char) type + "ba").expectedChecksum(0), (7 * type + 6 + 98 + 2 * 97) % 251);
        }
    }

    private static void fragments() {
        sentence("1: The first one starts at the first offset of the block.");
        FramedLog b = raw(8, "\0\0\0\0\0\0\0\0" + full("abcde") + "x");
        due("behind a block without fragments", b.isFragmentStart(0) + " " + b.isFragmentStart(8) + " " + b.fragmentCount(), "false true 1");

        sentence("1: Each further one starts directly after the one before it.");
        FramedLog c = raw(32, full("a") + full("") + full("bc") + "\0" + full("d"));
        due("starts", starts(c), "0 4 7 ");

        sentence("1: Fewer than 3 bytes of the block size are left.");
        due("3 left", starts(raw(8, full("ab") + full("") + full("c"))), "0 5 8 ");
        // the padding and the block behind it look like a header: length 0, type 1
        FramedLog two = raw(8, full("abc") + "\0\0" + "\1\0\1");
        due("2 left", starts(two) + two.fragmentCount() + " " + two.bytesAfterFragments(0), "0 8 2 2");
        FramedLog one = raw(8, full("abcd") + "\0" + "\0\1\1x");
        due("1 left", starts(one) + one.bytesAfterFragments(0), "0 8 1");
        due("none left", starts(raw(8, full("abcde") + full(""))), "0 8 ");

        sentence("1: The header is not completely inside the log.");
        for (int length = 5; length <= 8; length++) {
            FramedLog x = raw(8, (full("ab") + full("")).substring(0, length));
            due("a log of " + length, starts(x) + x.fragmentCount(), length == 8 ? "0 5 2" : "0 1");
        }

        sentence("1: The type is not 1 to 4.");
        for (int type = 0; type <= 255; type++) {
            FramedLog x = raw(8, "\0\0" + (char) type + "\0");
            boolean known = type >= 1 && type <= 4;
            due("type " + type, x.isFragmentStart(0) + " " + x.fragmentCount(), known + (known ? " 1" : " 0"));
        }

        sentence("1: The payload is not completely inside the block and inside the log.");
        for (int size : new int[] {8, 16, 32}) {
            for (int payload = 0; payload <= 255; payload++) {
                FramedLog x = raw(size, "\0" + (char) payload + "\1" + "\0".repeat(45));
                due("payload " + payload + " in a block of " + size, x.isFragmentStart(0), payload <= size - 3);
            }
            for (int length = 3; length <= size; length++) {
                FramedLog x = raw(size, ("\0" + (char) (size - 5) + "\1" + "\0".repeat(45)).substring(0, length));
                due("a log of " + length + " in a block of " + size, x.isFragmentStart(0), length >= size - 2);
            }
        }

        sentence("1: The checksum has no effect on this.");
        for (int checksum = 0; checksum <= 255; checksum++) {
            due("checksum " + checksum, starts(raw(8, (char) checksum + "\0\1" + full("a"))), "0 3 ");
        }

        sentence("1: The search in this block stops.");
        due("behind a wrong type", starts(raw(16, full("a") + "\0\0\0" + full("b") + "\0\0\0\0\0" + full("c"))), "0 16 ");
        due("behind a payload over the end", starts(raw(16, "\0\u000e\1" + full("b") + "\0".repeat(9) + full("c"))), "16 ");
    }

    private static String starts(FramedLog x) {
        StringBuilder s = new StringBuilder();
        int length = x.logLength();
        for (int i = 0; i < length; i++) if (x.isFragmentStart(i)) s.append(i).append(' ');
        return s.toString();
    }

    /** A log with one record of so many letters in a block of 8, and after it the record z. */
    private static FramedLog followed(int letters) {
        FramedLog x = loaded("block 8;record " + "a".repeat(letters) + ";");
        due("cost and fragments with " + (5 - letters) + " left", x.writeCost(1) + " " + x.fragmentsFor(1),
                new String[] {"4 1", "5 1", "6 1", "7 2", "4 1"}[5 - letters]);
        writes(x, "z");
        return x;
    }

    private static void writing() {
        sentence("2: If fewer than 3 bytes are left, the writer fills them with bytes 0.");
        due("none left", bytes(followed(5)), codes(full("aaaaa") + full("z")));
        due("1 left", bytes(followed(4)), codes(full("aaaa") + "\0" + full("z")));
        due("2 left", bytes(followed(3)), codes(full("aaa") + "\0\0" + full("z")));

        sentence("2: As many bytes of the record as fit into the block, possibly none.");
        due("3 left", bytes(followed(2)), codes(full("aa") + first("") + last("z")));
        due("4 left", bytes(followed(1)), codes(full("a") + full("z")));
        FramedLog four = loaded("block 8;record a;record yz;");
        due("4 left and two bytes", bytes(four), codes(full("a") + first("y") + last("z")));
        due("3 left and 40 bytes", described(loaded("block 8;record aa;record " + A40 + ";"), 0), "F2 I0");

        sentence("2: The type is FULL if the fragment contains the whole record.");
        due("one byte", bytes(loaded("block 8;record a;")), codes(full("a")));
        due("as many as fit", bytes(loaded("block 8;record aaaaa;")), codes(full("aaaaa")));
        due("as many as fit into 32", bytes(loaded("block 32;record " + A29 + ";")), codes(full(A29)));

        sentence("2: FIRST if it is the first of several, LAST if it is the last one, MIDDLE otherwise.");
        due("one more than fit", bytes(loaded("block 8;record aaaaab;")), codes(first("aaaaa") + last("b")));
        due("two fragments to the end", bytes(loaded("block 8;record aaaaabbbbb;")), codes(first("aaaaa") + last("bbbbb")));
        due("three", bytes(loaded("block 8;record aaaaabbbbbc;")), codes(first("aaaaa") + middle("bbbbb") + last("c")));
        due("four", bytes(loaded("block 8;record aaaaabbbbbcccccd;")), codes(first("aaaaa") + middle("bbbbb") + middle("ccccc") + last("d")));

        sentence("2: A record is a sequence of 1 to 40 bytes.");
        due("40 in 8s", bytes(loaded("block 8;record " + A40 + ";")),
                codes(first("aaaaa") + middle("aaaaa").repeat(6) + last("aaaaa")));
        due("40 in 32s", bytes(loaded("block 32;record " + A40 + ";")), codes(first(A29) + last("a".repeat(11))));
        FramedLog x = loaded("block 32;");
        due("writeRecord of 1 byte", writes(x, "\0"), 1);
        due("writeRecord of 40 bytes", writes(x, A40), 2);
        thrown("writeRecord of 41 bytes", ARGUMENT, () -> writes(x, A40 + "a"));
        thrown("writeRecord of 0 bytes", ARGUMENT, () -> writes(x, ""));
        error("block 8;record " + A40 + "a;", 2, 15);
    }

    private static String codes(String bytes) {
        StringBuilder s = new StringBuilder();
        for (int i = 0; i < bytes.length(); i++) s.append(i == 0 ? "" : " ").append((int) bytes.charAt(i));
        return s.toString();
    }

    /** What a reader at the offset 0 reads: each record, and its counts after it. */
    private static String readings(int blockSize, String bytes) {
        FramedLog x = raw(blockSize, bytes);
        StringBuilder s = new StringBuilder();
        for (int i = 0; i < 20; i++) {
            Object length = answer(() -> x.read(0));
            if (length == ELEMENT) return s + counts(x, 0);
            s.append('<').append(output(x, (Integer) length)).append("> ");
        }
        return "endless";
    }

    private static void readingSteps() {
        sentence("3 (a): If fewer than 3 bytes are left, the offset moves to the start of the next block.");
        due("none left", readings(8, full("abcde") + full("x")), "<abcde> <x> 12 2 0 0 0");
        due("1 left", readings(8, full("abcd") + "\1" + full("x")), "<abcd> <x> 12 2 0 0 0");
        due("2 left", readings(8, full("abc") + "\7\0" + full("x")), "<abc> <x> 12 2 0 0 0");
        due("2 left, like a header", readings(8, full("abc") + "\7\0" + "\1\0\0" + "\0\0\0\0\0" + full("x")), "<abc> <x> 20 2 1 0 0");
        due("3 left", readings(8, full("ab") + "\7\0\0" + full("x")), "<ab> <x> 12 2 1 0 0");
        due("3 left, with a fragment", readings(8, full("ab") + full("") + full("x")), "<ab> <> <x> 12 3 0 0 0");

        sentence("3 (b): If the header is not completely inside the log, the search fails.");
        for (int length = 0; length <= 3; length++) {
            due(length + " bytes of a header", readings(8, full("abcde") + full("").substring(0, length)),
                    length == 3 ? "<abcde> <> 11 2 0 0 0" : "<abcde> 8 1 0 0 0");
        }
        for (int length = 0; length <= 3; length++) {
            due(length + " bytes of a header within a block", readings(8, full("ab") + full("").substring(0, length)),
                    length == 3 ? "<ab> <> 8 2 0 0 0" : "<ab> 5 1 0 0 0");
        }
        due("an empty log", readings(8, ""), "0 0 0 0 0");

        sentence("3 (c): If the type is not 1 to 4, there is a damage problem.");
        for (int type = 0; type <= 255; type++) {
            String bytes = (char) (7 * type % 251) + "\0" + (char) type + full("ab") + full("x");
            String want = type == FULL ? "<> <ab> <x> 12 3 0 0 0" : type == FIRST ? "<ab> <x> 12 2 0 1 0"
                    : type == MIDDLE || type == LAST ? "<ab> <x> 12 2 0 0 1" : "<x> 12 1 1 0 0";
            due("type " + type, readings(8, bytes), want);
        }

        sentence("3 (c): If the payload would not be completely inside the block, there is a damage problem.");
        due("to the end", readings(8, full("abcde") + full("x")), "<abcde> <x> 12 2 0 0 0");
        due("1 over the end", readings(8, full("abcdef").substring(0, 8) + full("x")), "<x> 12 1 1 0 0");
        due("255", readings(8, "\0\u00ff\1abcde" + full("x")), "<x> 12 1 1 0 0");
        due("at the last header of a block", readings(8, full("ab") + "\n\1\1" + full("x")), "<ab> <x> 12 2 1 0 0");

        sentence("3 (c): The collected bytes are dropped, the offset moves to the start of the next block.");
        due("not behind the fragment", readings(16, "\0\0\0" + full("a") + full("b") + "\0\0\0\0\0" + full("c")), "<c> 20 1 1 0 0");
        due("a started record", readings(8, first("abcde") + "\0\0\0\0\0\0\0\0" + last("f") + full("g")), "<g> 24 1 1 0 1");

        sentence("3 (d): If the payload is not completely inside the log, the search fails.");
        due("to the end", readings(8, full("abc")), "<abc> 6 1 0 0 0");
        due("1 missing", readings(8, full("abc").substring(0, 5)), "0 0 0 0 0");
        due("all missing", readings(8, full("abc").substring(0, 3)), "0 0 0 0 0");
        due("the second fragment", readings(8, first("abcde") + last("fgh").substring(0, 5)), "0 0 0 0 0");

        sentence("3 (d) comes before (e): a wrong checksum is not looked at.");
        FramedLog d = raw(8, broken(full("abc")).substring(0, 5));
        due("problemsBeforeNext", d.problemsBeforeNext(0), -1);
        due("the next record would follow the cut one", raw(8, full("a") + broken(full("bc")).substring(0, 4)).recordsLeft(0), 1);

        sentence("3 (e): If the checksum is wrong, there is a damage problem, as in (c).");
        for (int mask = 1; mask <= 255; mask++) {
            String wrong = (char) (full("ab").charAt(0) ^ mask) + full("ab").substring(1);
            due("wrong by " + mask, readings(8, wrong + full("") + full("x")), "<x> 12 1 1 0 0");
        }
        due("not behind the fragment", readings(16, broken(full("a")) + full("b") + "\0\0\0\0\0\0\0\0" + full("c")), "<c> 20 1 1 0 0");
        due("a started record", readings(8, first("abcde") + broken(middle("abcde")) + last("f") + full("g")), "<g> 24 1 1 0 1");

        sentence("3 (f): If the type is FULL or FIRST and a record was started, there is an incomplete problem.");
        due("FULL", readings(8, first("abcde") + full("x")), "<x> 12 1 0 1 0");
        due("FIRST", readings(8, first("abcde") + first("fghij") + last("x")), "<fghijx> 20 1 0 1 0");
        due("FIRST twice", readings(8, first("abcde") + first("fghij") + first("klmno") + last("x")), "<klmnox> 28 1 0 2 0");
        due("FULL after MIDDLE", readings(8, first("abcde") + middle("fghij") + full("x")), "<x> 20 1 0 1 0");
        due("FULL, no record started", readings(8, full("a") + full("b")), "<a> <b> 8 2 0 0 0");

        sentence("3 (f): If the type is MIDDLE or LAST and no record was started, there is an orphan problem.");
        due("MIDDLE", readings(8, middle("a") + full("b")), "<b> 8 1 0 0 1");
        due("LAST", readings(8, last("a") + full("b")), "<b> 8 1 0 0 1");
        due("both", readings(8, middle("abcde") + last("fghij") + full("b")), "<b> 20 1 0 0 2");
        due("LAST after a record", readings(8, first("abcde") + last("f") + last("g") + full("h")), "<abcdef> <h> 20 2 0 0 1");

        sentence("3 (g): A record is started by FIRST. With FULL and LAST the search succeeds.");
        due("FIRST and LAST in one block", readings(16, first("a") + last("b") + full("c")), "<ab> <c> 12 2 0 0 0");
        due("with MIDDLE in one block", readings(16, first("a") + middle("") + middle("b") + last("")), "<ab> 14 1 0 0 0");
        due("a record of no bytes", readings(8, first("") + last("")), "<> 6 1 0 0 0");
        due("more than 40 bytes", readings(32, first(A29) + middle(A29) + last("b")), "<" + A29 + A29 + "b> 68 1 0 0 0");
        due("FIRST alone", readings(8, first("a")), "0 0 0 0 0");
        due("FIRST and MIDDLE alone", readings(8, first("a") + middle("")), "0 0 0 0 0");
    }

    private static void readingResults() {
        sentence("3: A damage problem also ends a record that was started, without a further problem.");
        due("counts", readings(8, first("abcde") + broken(full("fghij")) + full("x")), "<x> 20 1 1 0 0");

        sentence("3: If the search succeeds, the numbers of problems of the three kinds are added to the counts.");
        String problems = broken(full("abcde")) + middle("abcde") + last("abcde") + first("abcde") + first("abcde") + "\0\0\0\0\0\0\0\0"
                + last("") + full("xy");
        due("once", readings(8, problems), "<xy> 56 1 2 1 3");
        due("twice", readings(8, problems + problems), "<xy> <xy> 112 2 4 2 6");

        sentence("3: If the search fails, the reader does not change, whatever problems were found on the way.");
        due("after each kind of problem", readings(8, full("abcde") + problems.substring(0, 51)), "<abcde> 8 1 0 0 0");
        FramedLog x = raw(8, broken(full("abcde")) + last("abcde") + first("abcde"));
        thrown("read", ELEMENT, () -> x.read(0));
        thrown("read again", ELEMENT, () -> x.read(0));
        due("the reader", counts(x, 0), "0 0 0 0 0");
        writes(x, "z");
        due("they are counted once", x.read(0) + " " + counts(x, 0), "1 28 1 1 1 1");

        sentence("3: They are numbered from 0. The start of a readable record is the offset of its first fragment.");
        FramedLog y = raw(8, first("abcde") + broken(full("abcde")) + last("abcde") + first("fg") + middle("") + last("h") + "\0\0\0\0" + full("i"));
        due("starts", y.recordCount() + " " + y.recordStart(0) + " " + y.recordStart(1) + " " + y.recordFragments(0), "2 24 40 3");
    }

    private static void error(String text, int code, int position) {
        FramedLog x = new FramedLog();
        type(x, text);
        thrown("load of <" + text + ">", ARGUMENT, x::load);
        due("errorCode of <" + text + ">", x.errorCode(), code);
        due("errorPosition of <" + text + ">", x.errorPosition(), position);
    }

    private static void right(String text, String state) {
        FramedLog x = new FramedLog();
        type(x, text);
        due("load of <" + text + ">", answer(() -> x.load()).equals(x.logLength()) + " " + all(x), "true " + state);
        due("error of <" + text + ">", x.errorCode() + " " + x.errorPosition(), "0 -1");
    }

    private static void tokens() {
        sentence("4: Every other byte, except the space and the line feed, is a token of its own.");
        for (int sign = 0; sign <= 255; sign++) {
            char c = (char) sign;
            String text = "block" + c + "8;";
            if (c == ' ' || c == '\n' || c == '0') right(text, "8||0");
            else if (c == '1' || c == '2') right(text, c + "8||0");
            else if (c >= '3' && c <= '9') error(text, 2, 5);
            else if (c >= 'a' && c <= 'z') error(text, 1, 0);
            else error(text, 1, 5);
        }

        sentence("4: A word is a maximal run of the letters a to z.");
        for (int sign = 0; sign <= 255; sign++) {
            char c = (char) sign;
            String text = "block 8;record a" + c + "b;";
            if (c >= 'a' && c <= 'z') due("letter " + sign, record(loaded(text), 0), "a" + c + "b");
            else if (c == ' ' || c == '\n') error(text, 1, 17);
            else error(text, 1, 16 + (c == ';' ? 1 : 0));
        }

        sentence("4: A number is a maximal run of decimal digits of any length; leading zeros have no effect.");
        right("block " + "0".repeat(590) + "8 ;", "8||0");
        right("block 032;record a;damage 00 001;cut 00000004;reader r;read r 00;", "32|106 1 1 97|1|r 0 0 0 0 0");
        error("block " + "0".repeat(590) + "7 ;", 2, 6);
        error("block " + "8".repeat(593) + ";", 2, 6);
        error("block 1 6;", 2, 6);
        error("block 8 0;", 1, 8);
        for (String wrap : new String[] {"4294967296", "18446744073709551616", "340282366920938463463374607431768211456"}) {
            error("block " + plus(wrap, 8) + ";", 2, 6);
            error("block 8;reader r;read r " + wrap + ";", 2, 24);
            error("block 8;record a;cut " + wrap + ";", 2, 21);
            error("block 8;record a;damage " + wrap + " 1;", 2, 24);
            error("block 8;record a;damage 0 " + plus(wrap, 1) + ";", 2, 26);
        }
        error("block 2147483656;", 2, 6);
        error("block 8;record a;cut 2147483648;", 2, 21);

        sentence("4: Spaces and line feeds only separate tokens.");
        right("\n \n block \n 8 \n ; \n record \n ab \n ; \n reader \n r \n ; \n read \n r \n 1 \n ; \n cut \n 4 \n ; \n damage \n 3 \n 9 \n ; \n \n",
                "8|55 2 1 104|1|r 4 1 0 0 0");
        right("block8;record ab;reader r;read r1;cut4;damage3 9;", "8|55 2 1 104|1|r 4 1 0 0 0");
        error("block 8;rec ord ab;", 1, 8);
        error("block 8;recordab;", 1, 8);

        sentence("4: The input buffer holds at most 600 bytes.");
        String padded = "block 8;record ab;" + " ".repeat(581) + ";";
        due("the text's length", padded.length(), 600);
        error(padded, 1, 599);
        right("block 8;record ab" + " ".repeat(582) + ";", "8|55 2 1 97 98|1");
        error("block 8;record ab" + " ".repeat(583), 1, 600);
    }

    private static String plus(String number, int small) {
        return new java.math.BigInteger(number).add(java.math.BigInteger.valueOf(small)).toString();
    }

    private static void ranges() {
        sentence("4: read NAME NUMBER, 0 to 20, or a search fails.");
        String many = "block 32;" + "record a;".repeat(25) + "reader r;";
        for (int n : new int[] {0, 1, 19, 20}) due("read r " + n, loaded(many + "read r " + n + ";").recordsRead(0), n);
        due("twice", loaded(many + "read r 20;read r 5;").recordsRead(0), 25);
        due("all", loaded(many + "read r 20;read r 20;").recordsRead(0), 25);
        error(many + "read r 21;", 2, many.length() + 7);
        due("fewer records", counts(loaded("block 8;record a;record b;reader r;read r 20;"), 0), "8 2 0 0 0");
        due("no records", counts(loaded("block 8;reader r;read r 20;"), 0), "0 0 0 0 0");
        due("the failed search leaves no problems", counts(loaded("block 8;record a;record bcdef;damage 8 1;reader r;read r 2;"), 0), "4 1 0 0 0");

        sentence("4: cut LENGTH, 0 to its length.");
        for (int n = 0; n <= 5; n++) due("cut " + n, loaded("block 8;record ab;cut " + n + ";").logLength(), n);
        error("block 8;record ab;cut 6;", 2, 22);
        right("block 8;cut 0;", "8||0");
        error("block 8;cut 1;", 2, 12);

        sentence("4: damage OFFSET MASK, the mask 1 to 255, also an offset that is not inside the log.");
        due("damage 0 1", loaded("block 8;record ab;damage 0 1;").logByte(0), 54);
        due("damage 4 255", loaded("block 8;record ab;damage 4 255;").logByte(4), 157);
        error("block 8;record ab;damage 5 1;", 2, 25);
        error("block 8;record ab;damage 4 0;", 2, 27);
        error("block 8;record ab;damage 4 256;", 2, 27);
        error("block 8;damage 0 1;", 2, 15);
        error("block 8;record ab;cut 4;damage 4 1;", 2, 31);

        sentence("4: The word of a record has more than 40 letters; the name of a new reader has more than 4 letters.");
        due("1 letter", loaded("block 8;record a;").recordLength(0), 1);
        due("40 letters", loaded("block 8;record " + A40 + ";").recordLength(0), 40);
        error("block 8;record " + A40 + "a;", 2, 15);
        error("block 8;record " + "a".repeat(580) + ";", 2, 15);
        due("names", name(loaded("block 8;reader a;"), 0) + " " + name(loaded("block 8;reader abcd;"), 0), "a abcd");
        error("block 8;reader abcde;", 2, 15);
    }

    private static void statements() {
        sentence("4: block is the first statement, and it occurs only there.");
        error("reader a;block 8;", 1, 0);
        error(";block 8;", 1, 0);
        error("block 8;block 8;", 1, 8);
        error("block 8;record a;block 8;", 1, 17);
        right("block 8;reader bloc;record block;", "8|37 5 1 98 108 111 99 107|1|bloc 0 0 0 0 0".replace("37", checksumOf("block")));

        sentence("4: The statements are executed in the order of the text.");
        due("read before record", counts(loaded("block 8;reader r;read r 1;record a;"), 0), "0 0 0 0 0");
        due("record before read", counts(loaded("block 8;reader r;record a;read r 1;"), 0), "4 1 0 0 0");
        due("damage and read", counts(loaded("block 8;record abcde;record f;reader r;damage 0 1;read r 1;"), 0), "12 1 1 0 0");
        due("cut and record", all(loaded("block 8;record abcde;cut 6;record f;")),
                "8|" + codes(full("abcde").substring(0, 6) + "\0\0" + full("f")) + "|2");
        due("damage twice", loaded("block 8;record a;damage 3 5;damage 3 5;").logByte(3), 97);

        sentence("4: reader NAME adds a reader at the offset 0.");
        due("behind records", counts(loaded("block 8;record a;reader q;read q 1;reader r;"), 1), "0 0 0 0 0");

        sentence("5: cut in a text moves the offset of a reader that is greater than the new length to the new length.");
        String cut = "block 8;record a;record b;reader r;reader s;reader t;read r 2;read s 1;";
        for (int n = 3; n <= 5; n++) {
            FramedLog x = loaded(cut + "cut " + n + ";");
            due("cut " + n, x.readerOffset(0) + " " + x.readerOffset(1) + " " + x.readerOffset(2), n + " " + Math.min(n, 4) + " 0");
            due("the counts after cut " + n, x.recordsRead(0) + " " + x.recordsRead(1), "2 1");
        }
    }

    private static String checksumOf(String payload) {
        return "" + (int) full(payload).charAt(0);
    }

    private static void errors() {
        sentence("4: Error 1: the text ends too early (also an empty text); the position is the length of the text.");
        String[] tokens = {"block", "8", ";", "record", "a", ";", "reader", "r", ";", "read", "r", "0", ";", "cut", "0", ";", "record", "a", ";",
                "damage", "0", "1", ";"};
        String text = "";
        error(text, 1, 0);
        error("  \n", 1, 3);
        for (String token : tokens) {
            text += (text.isEmpty() ? "" : " ") + token;
            if (token.equals(";")) {
                due("the whole statement <" + text + ">", loaded(text).blockSize(), 8);
            } else {
                error(text, 1, text.length());
                error(text + "\n ", 1, text.length() + 2);
            }
        }

        sentence("4: Error 1: the token is not allowed here.");
        text = "";
        for (String token : tokens) {
            text += text.isEmpty() ? "" : " ";
            error(text + "?" + token, 1, text.length());
            error(text + "\0", 1, text.length());
            if (!token.equals(";")) error(text + ";", 1, text.length());
            boolean freeWord = text.endsWith("record ") || text.endsWith("reader ") || text.endsWith("read ");
            if (!freeWord) error(text + "x", 1, text.length());
            if (!Character.isDigit(token.charAt(0))) error(text + "999", 1, text.length());
            text += token;
        }

        sentence("4: Error 1: a word that is not quite the keyword.");
        for (String keyword : new String[] {"record", "reader", "read", "cut", "damage"}) {
            error("block 8;x" + keyword.substring(1) + " a 1;", 1, 8);
            error("block 8;" + keyword.substring(0, keyword.length() - 1) + "x a 1;", 1, 8);
            error("block 8;" + keyword + "s a 1;", 1, 8);
            error("block 8;" + keyword.substring(0, keyword.length() - 1) + ";", 1, 8);
            error("block 8;" + keyword.toUpperCase() + " a 1;", 1, 8);
        }
        for (String word : new String[] {"xlock", "blocx", "blocks", "bloc", "b"}) error(word + " 8;", 1, 0);

        sentence("4: Error 3: a reader with the name of a new reader exists already.");
        error("block 8;reader a;reader a;", 3, 24);
        error("block 8;reader abcd;reader ab;reader abcd;", 3, 37);
        error("block 8;reader a;reader b;reader c;reader a", 3, 42);
        due("a part of a name", loaded("block 8;reader abcd;reader abc;reader bcd;reader a;").readerCount(), 4);

        sentence("4: Error 4: no reader has the name after read.");
        error("block 8;read a 1;", 4, 13);
        error("block 8;reader abc;read ab 1;", 4, 24);
        error("block 8;reader abc;read abcd 1;", 4, 24);
        error("block 8;reader abc;read abcdefgh 1;", 4, 24);
        error("block 8;read a", 4, 13);
        due("a name like a keyword", counts(loaded("block 8;reader cut;record a;read cut 1;"), 0), "4 1 0 0 0");

        sentence("4: Error 5: the word reader when there are 4 readers.");
        String four = "block 8;reader a;reader b;reader c;reader d;";
        due("4 readers", loaded(four).readerCount(), 4);
        error(four + "reader e;", 5, 44);
        error(four + "reader a;", 5, 44);
        error(four + "reader abcde;", 5, 44);
        error(four + "reader", 5, 44);
        error(four + "readers", 1, 44);

        sentence("4: Error 5: the semicolon of a record that does not fit into 400 bytes of the log (with padding).");
        String twelve = FULL_TEXT.substring(0, FULL_TEXT.indexOf("record b"));
        due("400", loaded(twelve + "record bbbbbbbbbbbbb;").logLength(), 400);
        error(twelve + "record bbbbbbbbbbbbbb;", 5, twelve.length() + 21);
        error(twelve + "record bbbbbbbbbbbbbb ;", 5, twelve.length() + 22);
        error(twelve + "record bbbbbbbbbbbbbb", 1, twelve.length() + 21);
        error(twelve + "record bbbbbbbbbbbbbb?", 1, twelve.length() + 21);
        error(FULL_TEXT + "record b;", 5, FULL_TEXT.length() + 8);
        due("after a cut", loaded(FULL_TEXT + "cut 396;record b;").logLength(), 400);
        error(FULL_TEXT + "cut 397;record b;", 5, FULL_TEXT.length() + 16);
        String padded = "block 11;" + "record bbbbbbbb;".repeat(35) + "record cccccc;";
        due("400 with padding", loaded(padded + "record d;").logLength(), 400);
        error(padded + "record dd;", 5, padded.length() + 9);

        sentence("4: The parser stops at the first token that has an error.");
        error("block 8;reader abcde;?", 2, 15);
        error("block 7;?", 2, 6);
        error("block 7?", 2, 6);
        error("? block 7;", 1, 0);
        error("block 8;read x 99;", 4, 13);
        error("block 8;record a;damage 9 999;", 2, 24);
        error("block 8;record a;damage 0 999", 2, 26);

        sentence("4: If that token has several errors, the smallest error code applies.");
        error(twelve + "record " + A40 + "a;", 2, twelve.length() + 7);
        error(four + "reader reader;", 5, 44);
        error(four + "read reader 1;", 4, 49);
        error(four + "cut reader;", 1, 48);
    }

    private static void beforeTheFirstLoad() {
        sentence("5: Before the first successful load the state is that of the text.");
        String state = all(loaded(OPENING_TEXT));
        FramedLog x = new FramedLog();
        due("state", all(x), state);
        type(x, "block 8;record a;reader a;reader a;");
        thrown("load", ARGUMENT, x::load);
        due("state after an error", all(x), state);
        due("nothing is remembered", x.undoDepth(), 0);
        FramedLog y = new FramedLog();
        type(y, "block 8;");
        y.load();
        due("state after load", all(y), "8||0");
        y.undo();
        due("state after undo", all(y), state);
    }
}
