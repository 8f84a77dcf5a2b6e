/** For each promise of the document, calls whose answers follow from its words: ordinary ones, edges and wrong inputs. */
public final class FramedLogPromises extends Checks {
    private static final String OPENING = "16|147 3 1 104 101 109 97 7 2 108 111 110 103 116 104 114"
            + " 186 9 4 101 97 100 111 102 119 111 111 108 124 1 2 107 215 3 4 110 111 116 104 3 1 97 97 99"
            + "|4|ada 28 2 0 0 0|ben 0 0 0 0 0";

    public static void main(String[] args) {
        constants();
        newObject();
        input();
        load();
        errors();
        simpleQuestions();
        readers();
        fragments();
        records();
        bytesByKind();
        nextRecords();
        writing();
        whatIf();
        writeRecord();
        addReader();
        read();
        searchSteps();
        seek();
        truncateLog();
        damage();
        repair();
        dropBlocks();
        compact();
        describeBlock();
        slots();
        undo();
        tellTheEnd();
    }

    private static void constants() {
        due("constants", FramedLog.NONE + " " + FramedLog.FULL + " " + FramedLog.FIRST + " " + FramedLog.MIDDLE + " " + FramedLog.LAST,
                "-1 1 2 3 4");
    }

    private static void newObject() {
        about = "promise 1";
        FramedLog x = new FramedLog();
        due("state", all(x), OPENING);
        due("errorCode", x.errorCode(), 0);
        due("errorPosition", x.errorPosition(), -1);
        due("undoDepth", x.undoDepth(), 0);
        thrown("undo", STATE, x::undo);
        thrown("outputByte(0)", ELEMENT, () -> x.outputByte(0));
        thrown("restore(0)", STATE, () -> x.restore(0));
        thrown("restore(1)", STATE, () -> x.restore(1));
        thrown("truncateInput(1)", ARGUMENT, () -> x.truncateInput(1));
        due("truncateInput(0)", x.truncateInput(0), 0);
        FramedLog y = loaded("block 16;record hem;record longthreadofwool;reader ada;reader ben;record knot;record abc;read ada 2;damage 42 3;");
        due("the text's state", all(y), OPENING);
    }

    private static void input() {
        about = "promise 2";
        FramedLog x = loaded("block 16;");
        due("appendInput", x.appendInput(0x01020304, 0x05060708, 0x090a0b0c, 0x0d0e0f10, 0x11121314), 20);
        due("appendInput", x.appendInput(0xfffefdfc, MIN, MAX, -1, 0), 40);
        x.writeRecord();
        StringBuilder s = new StringBuilder();
        for (int i = 0; i < 40; i++) s.append(x.recordByte(0, i)).append(' ');
        due("the bytes", s.toString(), "1 2 3 4 5 6 7 8 9 10 11 12 13 14 15 16 17 18 19 20"
                + " 255 254 253 252 128 0 0 0 127 255 255 255 255 255 255 255 0 0 0 0 ");
        for (int i = 1; i <= 30; i++) due("appendInput", x.appendInput(i, i, i, i, i), 20 * i);
        thrown("appendInput over 600", STATE, () -> x.appendInput(0, 0, 0, 0, 0));
        x.truncateInput(581);
        thrown("appendInput at 581", STATE, () -> x.appendInput(0, 0, 0, 0, 0));
        thrown("the length is as before", ARGUMENT, () -> x.truncateInput(582));
        x.truncateInput(580);
        due("appendInput at 580", x.appendInput(0, 0, 0, 0, 0), 600);
        due("no undoable call", x.undoDepth(), 2);

        about = "promise 3";
        FramedLog y = new FramedLog();
        y.appendInput(0x61626364, 0, 0, 0, 0);
        thrown("truncateInput(21)", ARGUMENT, () -> y.truncateInput(21));
        thrown("truncateInput(-1)", ARGUMENT, () -> y.truncateInput(-1));
        thrown("truncateInput(MIN)", ARGUMENT, () -> y.truncateInput(MIN));
        thrown("truncateInput(MAX)", ARGUMENT, () -> y.truncateInput(MAX));
        due("truncateInput(20)", y.truncateInput(20), 20);
        due("truncateInput(3)", y.truncateInput(3), 3);
        thrown("truncateInput(4)", ARGUMENT, () -> y.truncateInput(4));
        due("addReader", y.addReader(), 2);
        due("name", name(y, 2), "abc");
    }

    private static void load() {
        about = "promise 4";
        FramedLog x = new FramedLog();
        type(x, "block 8;\n record ab;reader q;");
        due("load", x.load(), 5);
        due("state", all(x), "8|55 2 1 97 98|1|q 0 0 0 0 0");
        thrown("the input is empty", ARGUMENT, () -> x.truncateInput(1));
        due("undoDepth", x.undoDepth(), 1);
        type(x, "block 9;record ab;read q 1;");
        thrown("load with an error", ARGUMENT, x::load);
        thrown("the input is empty after an error", ARGUMENT, () -> x.truncateInput(1));
        due("state after an error", all(x), "8|55 2 1 97 98|1|q 0 0 0 0 0");
        due("undoDepth after an error", x.undoDepth(), 1);
        due("undo", x.undo(), 0);
        due("state after undo", all(x), OPENING);

        due("blanks and zeros", all(loaded("\n block\n0000000000000000000000000000032 ; \n")), "32||0");
        due("no blanks", all(loaded("block08;record abc;cut4;damage2 255;")), "8|104 3 254 97|1");
        due("smallest block", loaded("block 8;").blockSize(), 8);
        due("padding", all(loaded("block 8;record abc;record a;")), "8|104 3 1 97 98 99 0 0 107 1 1 97|2");
        due("empty first fragment", all(loaded("block 8;record ab;record xy;")), "8|55 2 1 97 98 14 0 2 145 2 4 120 121|2");
        due("middle", all(loaded("block 8;record aaaaaaaaaaaa;")),
                "8|229 5 2 97 97 97 97 97 236 5 3 97 97 97 97 97 74 2 4 97 97|1");
        due("40 letters", loaded("block 32;record " + A40 + ";").recordLength(0), 40);
        due("keywords as names", name(loaded("block 8;reader read;read read 0;record block;"), 0), "read");
        due("read until it fails", all(loaded("block 8;record a;record b;reader r;read r 20;")), "8|107 1 1 97 108 1 1 98|2|r 8 2 0 0 0");
        due("read twice", loaded("block 8;record a;record b;reader r;read r 1;read r 1;").recordsRead(0), 2);
        due("read fewer", loaded("block 8;record a;record b;reader r;read r 1;").readerOffset(0), 4);
        due("cut moves readers", all(loaded("block 8;record a;record b;reader r;reader s;read r 2;read s 1;cut 6;")),
                "8|107 1 1 97 108 1|2|r 6 2 0 0 0|s 4 1 0 0 0");
        due("cut to nothing", all(loaded("block 8;record a;cut 0;")), "8||1");
        due("cut to the length", loaded("block 8;record a;cut 4;").logLength(), 4);
        due("damage", loaded("block 8;record a;damage 3 255;").logByte(3), 158);
        due("damage and read", all(loaded("block 8;record a;record b;record c;damage 3 1;reader r;read r 1;")),
                "8|107 1 1 96 108 1 1 98 109 1 1 99|3|r 12 1 1 0 0");
        due("four readers", loaded("block 8;reader a;reader b;reader c;reader d;").readerCount(), 4);
    }

    private static void error(String text, int code, int position) {
        FramedLog x = new FramedLog();
        type(x, text);
        about = "promise 4";
        thrown("load of <" + text + ">", ARGUMENT, x::load);
        due("state after <" + text + ">", all(x), OPENING);
        about = "promise 5";
        due("errorCode of <" + text + ">", x.errorCode(), code);
        about = "promise 6";
        due("errorPosition of <" + text + ">", x.errorPosition(), position);
    }

    private static void errors() {
        error("", 1, 0);
        error(" \n ", 1, 3);
        error("block", 1, 5);
        error("block 16", 1, 8);
        error("block 16  ", 1, 10);
        error("Block 16;", 1, 0);
        error("blocks 16;", 1, 0);
        error("flock 16;", 1, 0);
        error("block 16;second a;", 1, 9);
        error("block 16;lamage 0 0;", 1, 9);
        error("block 16;but 0;", 1, 9);
        error("record a;", 1, 0);
        error("16;", 1, 0);
        error("block x;", 1, 6);
        error("block ;", 1, 6);
        error("block 7;", 2, 6);
        error("block 33;", 2, 6);
        error("block 4294967312;", 2, 6);
        error("block 18446744073709551632;", 2, 6);
        error("block 16,", 1, 8);
        error("block -16;", 1, 6);
        error("block\t16;", 1, 5);
        error("block 16;\r", 1, 9);
        error("block 16;;", 1, 9);
        error("block 16;block 16;", 1, 9);
        error("block 16;\u0000", 1, 9);
        error("block 16;5", 1, 9);
        error("block 16;recorda b;", 1, 9);
        error("block 16;record", 1, 15);
        error("block 16;record ;", 1, 16);
        error("block 16;record 5;", 1, 16);
        error("block 16;record aB;", 1, 17);
        error("block 16;record a\u00e9;", 1, 17);
        error("block 16;record a b;", 1, 18);
        error("block 16;record a", 1, 17);
        error("block 16;record " + A40 + "a;", 2, 16);
        error("block 16;record " + A40 + "a", 2, 16);
        error("block 16;reader ;", 1, 16);
        error("block 16;reader 1;", 1, 16);
        error("block 16;reader abcde;", 2, 16);
        error("block 16;reader a a;", 1, 18);
        error("block 16;reader ab;reader ab;", 3, 26);
        error("block 16;reader ab;reader a;reader abc;reader abcd;reader b;", 5, 51);
        error("block 16;reader ab;reader a;reader abc;reader abcd;reader", 5, 51);
        error("block 16;read ada 1;", 4, 14);
        error("block 16;reader ada;read ad 1;", 4, 25);
        error("block 16;reader ada;read adam 1;", 4, 25);
        error("block 16;reader ada;read abcdef 1;", 4, 25);
        error("block 16;reader ada;read 1 1;", 1, 25);
        error("block 16;reader ada;read ada;", 1, 28);
        error("block 16;reader ada;read ada 21;", 2, 29);
        error("block 16;reader ada;read ada 9999999999;", 2, 29);
        error("block 16;reader ada;read ada 20", 1, 31);
        error("block 16;record abc;cut 7;", 2, 24);
        error("block 16;record abc;cut abc;", 1, 24);
        error("block 16;record abc;cut 6 6;", 1, 26);
        error("block 16;damage 0 1;", 2, 16);
        error("block 16;record abc;damage 6 1;", 2, 27);
        error("block 16;record abc;damage 5 0;", 2, 29);
        error("block 16;record abc;damage 5 256;", 2, 29);
        error("block 16;record abc;damage 5;", 1, 28);
        error("block 16;record abc;damage x 0;", 1, 27);
        error("block 16;record abc;damage 5 255", 1, 32);
        // 12 records of 29 letters fill 12 blocks of 32; then 13 letters end at 400, and 14 do not fit
        String twelve = "block 32;" + ("record " + "b".repeat(29) + ";").repeat(12);
        error(twelve + "record cccccccccccccc;", 5, twelve.length() + 21);
        error(twelve + "record cccccccccccccc.", 1, twelve.length() + 21);
        about = "promise 4";
        due("13 letters fit", loaded(twelve + "record ccccccccccccc;").logLength(), 400);
        // in blocks of 11, a log of 394 bytes has 2 bytes of padding: 1 letter ends at 400, and 2 do not fit
        String padded = "block 11;" + ("record " + "b".repeat(8) + ";").repeat(35) + "record cccccc;";
        due("394 bytes", loaded(padded).logLength(), 394);
        due("1 letter fits", loaded(padded + "record d;").logLength(), 400);
        error(padded + "record dd;", 5, padded.length() + 9);
        about = "promise 5";
        FramedLog x = new FramedLog();
        due("errorCode without load", x.errorCode(), 0);
        type(x, "x");
        thrown("load", ARGUMENT, x::load);
        due("errorCode", x.errorCode(), 1);
        about = "promise 6";
        due("errorPosition", x.errorPosition(), 0);
        x.appendInput(0, 0, 0, 0, 0);
        due("errorPosition stays", x.errorPosition(), 0);
        type(x, "block 16;");
        x.load();
        due("errorPosition after a right text", x.errorPosition(), -1);
        about = "promise 5";
        due("errorCode after a right text", x.errorCode(), 0);
        type(x, "block 99;");
        thrown("load", ARGUMENT, x::load);
        x.undo();
        due("undo leaves the error", x.errorCode(), 2);
    }

    private static void simpleQuestions() {
        FramedLog x = loaded("block 9;record abcdef;record a;");
        about = "promise 7";
        due("blockSize", x.blockSize(), 9);
        about = "promise 8";
        due("logLength", x.logLength(), 13);
        about = "promise 9";
        due("blockCount", x.blockCount(), 2);
        due("blockCount of whole blocks", loaded("block 9;record abcdef;").blockCount(), 1);
        due("blockCount of an empty log", loaded("block 9;").blockCount(), 0);
        due("blockCount", loaded("block 9;record abcdef;record abcdef;cut 10;").blockCount(), 2);
        about = "promise 10";
        due("logByte(0)", x.logByte(0), (7 + 18 + 97 + 2 * 98 + 3 * 99 + 4 * 100 + 5 * 101 + 6 * 102) % 251);
        due("logByte(1)", x.logByte(1), 6);
        due("logByte(12)", x.logByte(12), 97);
        thrown("logByte(13)", INDEX, () -> x.logByte(13));
        thrown("logByte(-1)", INDEX, () -> x.logByte(-1));
        thrown("logByte(MAX)", INDEX, () -> x.logByte(MAX));
        thrown("logByte(MIN)", INDEX, () -> x.logByte(MIN));
        thrown("logByte of an empty log", INDEX, () -> loaded("block 9;").logByte(0));
        about = "promise 11";
        due("writtenRecords", x.writtenRecords(), 2);
        writes(x, "z");
        due("writtenRecords", x.writtenRecords(), 3);
        x.truncateLog(0);
        x.compact();
        due("writtenRecords after compact", x.writtenRecords(), 3);
        type(x, "block 9;record a;cut 0;");
        x.load();
        due("writtenRecords after load", x.writtenRecords(), 1);
        x.undo();
        due("writtenRecords after undo", x.writtenRecords(), 3);
    }

    private static void readers() {
        FramedLog x = new FramedLog();
        about = "promise 12";
        due("readerCount", x.readerCount(), 2);
        type(x, "zed");
        x.addReader();
        due("readerCount", x.readerCount(), 3);
        due("readerCount", loaded("block 8;").readerCount(), 0);
        about = "promise 13";
        due("names", name(x, 0) + name(x, 1) + name(x, 2), "adabenzed");
        due("names of 1 and 4 letters", name(loaded("block 8;reader a;reader zzzz;"), 1), "zzzz");
        thrown("no such reader", INDEX, () -> x.readerNameByte(3, 0));
        thrown("no such reader and position", INDEX, () -> x.readerNameByte(-1, 99));
        thrown("no such position", ELEMENT, () -> x.readerNameByte(0, 3));
        thrown("no such position", ELEMENT, () -> x.readerNameByte(0, -1));
        thrown("no such position", ELEMENT, () -> x.readerNameByte(0, MAX));

        FramedLog y = loaded("block 8;record abcdef;record a;record b;damage 3 1;reader r;reader s;read r 1;read s 2;");
        about = "promise 14";
        due("readerOffset(0)", y.readerOffset(0), 16);
        due("readerOffset(1)", y.readerOffset(1), 20);
        about = "promise 15";
        due("recordsRead(0)", y.recordsRead(0), 1);
        due("recordsRead(1)", y.recordsRead(1), 2);
        about = "promise 16";
        due("damageProblems(0)", y.damageProblems(0), 1);
        about = "promise 17";
        due("incompleteProblems(0)", y.incompleteProblems(0), 0);
        about = "promise 18";
        due("orphanProblems(0)", y.orphanProblems(0), 1);
        int[] odd = {2, -1, MAX, MIN, 4};
        for (int r : odd) {
            about = "promise 14";
            thrown("readerOffset", INDEX, () -> y.readerOffset(r));
            about = "promise 15";
            thrown("recordsRead", INDEX, () -> y.recordsRead(r));
            about = "promise 16";
            thrown("damageProblems", INDEX, () -> y.damageProblems(r));
            about = "promise 17";
            thrown("incompleteProblems", INDEX, () -> y.incompleteProblems(r));
            about = "promise 18";
            thrown("orphanProblems", INDEX, () -> y.orphanProblems(r));
        }
    }

    private static void fragments() {
        FramedLog x = new FramedLog();
        about = "promise 19";
        StringBuilder s = new StringBuilder();
        for (int i = 0; i < 44; i++) if (x.isFragmentStart(i)) s.append(i).append(' ');
        due("starts", s.toString(), "0 6 16 28 32 38 ");
        thrown("isFragmentStart(44)", INDEX, () -> x.isFragmentStart(44));
        thrown("isFragmentStart(-1)", INDEX, () -> x.isFragmentStart(-1));
        // padding, a header that is cut, a payload that is cut, and a payload that leaves the block
        FramedLog p = loaded("block 8;record abc;record ab;record xyz;record q;");
        due("block 1", p.isFragmentStart(6) + " " + p.isFragmentStart(8) + " " + p.isFragmentStart(13) + " " + p.isFragmentStart(16),
                "false true true true");
        due("payload cut", loaded("block 8;record abc;cut 5;").isFragmentStart(0), false);
        due("header cut", loaded("block 8;record abc;cut 2;").isFragmentStart(0), false);
        due("payload whole", loaded("block 8;record abcdef;cut 8;").isFragmentStart(0), true);
        due("payload leaves the block", loaded("block 8;record abcde;record abc;damage 1 3;").isFragmentStart(0), false);
        due("payload fills the block", loaded("block 8;record abcd;record abc;damage 1 1;").isFragmentStart(0), true);
        due("a header at the very end", loaded("block 8;record ab;record xy;cut 8;").isFragmentStart(5), true);
        due("type 0", loaded("block 8;record abc;damage 2 1;").isFragmentStart(0), false);
        due("type 5", loaded("block 8;record abc;damage 2 4;").isFragmentStart(0), false);
        due("type 4", loaded("block 8;record abc;damage 2 5;").isFragmentStart(0), true);
        due("the checksum does not matter", loaded("block 8;record abc;damage 0 5;").isFragmentStart(0), true);
        due("behind a broken one", loaded("block 16;record abc;record d;damage 2 4;").isFragmentStart(6), false);
        due("in the next block", loaded("block 16;record abc;record abcdefgh;damage 2 4;").isFragmentStart(16), true);

        about = "promise 20";
        due("types", x.fragmentType(0) + " " + x.fragmentType(6) + " " + x.fragmentType(16), "1 2 4");
        due("MIDDLE", loaded("block 8;record aaaaaaaaaaaa;").fragmentType(8), FramedLog.MIDDLE);
        about = "promise 21";
        due("lengths", x.fragmentLength(0) + " " + x.fragmentLength(6) + " " + x.fragmentLength(38), "3 7 3");
        due("length 0", loaded("block 8;record ab;record xy;").fragmentLength(5), 0);
        about = "promise 22";
        due("checksums", x.expectedChecksum(0) + " " + x.expectedChecksum(38) + " " + x.expectedChecksum(28), "147 102 124");
        due("whatever its header contains", loaded("block 8;record ab;damage 0 200;").expectedChecksum(0), 55);
        about = "promise 23";
        due("right", x.isChecksumRight(0), true);
        due("wrong", x.isChecksumRight(38), false);
        // 0 and 251 have the same remainder, but a header of 251 is wrong all the same
        FramedLog r = new FramedLog();
        type(r, "block 8;record a;");
        r.load();
        r.damage(3, 97 ^ 241);
        due("remainder 0", r.expectedChecksum(0), 0);
        r.damage(0, 107 ^ 251);
        due("251 is not 0", r.isChecksumRight(0), false);
        r.repair(0);
        due("0 is right", r.isChecksumRight(0), true);
        int[] odd = {1, -1, 7, 43, 44, 45, MAX, MIN, MAX - 2};
        for (int at : odd) {
            about = "promise 20";
            thrown("fragmentType", ARGUMENT, () -> x.fragmentType(at));
            about = "promise 21";
            thrown("fragmentLength", ARGUMENT, () -> x.fragmentLength(at));
            about = "promise 22";
            thrown("expectedChecksum", ARGUMENT, () -> x.expectedChecksum(at));
            about = "promise 23";
            thrown("isChecksumRight", ARGUMENT, () -> x.isChecksumRight(at));
        }

        about = "promise 24";
        due("fragmentCount", x.fragmentCount(), 6);
        due("of an empty log", loaded("block 8;").fragmentCount(), 0);
        due("after a broken one", loaded("block 16;record abc;record d;record abcdef;damage 2 4;").fragmentCount(), 1);
        due("two in a block", loaded("block 8;record a;record b;record cdefg;").fragmentCount(), 3);
        about = "promise 25";
        due("wrongChecksums", x.wrongChecksums(), 1);
        due("two", loaded("block 8;record a;record b;record cdefg;damage 0 1;damage 12 1;").wrongChecksums(), 2);
        due("none", loaded("block 8;record a;").wrongChecksums(), 0);
        about = "promise 26";
        due("firstWrongChecksum", x.firstWrongChecksum(), 38);
        due("two", loaded("block 8;record a;record b;record cdefg;damage 4 1;damage 12 1;").firstWrongChecksum(), 4);
        due("none", loaded("block 8;record a;").firstWrongChecksum(), -1);
        about = "promise 27";
        due("bytesAfterFragments", x.bytesAfterFragments(0) + " " + x.bytesAfterFragments(2), "0 0");
        FramedLog c = loaded("block 16;record abc;record dddddddddddddddddddd;record e;damage 2 4;cut 25;");
        due("the whole block", c.bytesAfterFragments(0), 16);
        due("the shorter block", c.bytesAfterFragments(1), 9);
        due("padding", loaded("block 8;record abc;record d;").bytesAfterFragments(0), 2);
        thrown("no such block", INDEX, () -> c.bytesAfterFragments(2));
        thrown("no such block", INDEX, () -> c.bytesAfterFragments(-1));
        thrown("no such block", INDEX, () -> c.bytesAfterFragments(MAX));
        thrown("no such block", INDEX, () -> loaded("block 8;").bytesAfterFragments(0));
    }

    private static void records() {
        FramedLog x = new FramedLog();
        about = "promise 28";
        due("recordCount", x.recordCount(), 3);
        due("of an empty log", loaded("block 8;").recordCount(), 0);
        due("behind damage", loaded("block 8;record abcde;record b;damage 3 1;").recordCount(), 1);
        about = "promise 29";
        due("recordStart", x.recordStart(0) + " " + x.recordStart(1) + " " + x.recordStart(2), "0 6 28");
        due("after padding", loaded("block 8;record abc;record ab;").recordStart(1), 8);
        due("behind an incomplete one", restarted().recordStart(0), 8);
        about = "promise 30";
        due("recordLength", x.recordLength(0) + " " + x.recordLength(1) + " " + x.recordLength(2), "3 16 4");
        about = "promise 31";
        due("recordByte", record(x, 0) + record(x, 1) + record(x, 2), "hemlongthreadofwoolknot");
        thrown("no such position", ELEMENT, () -> x.recordByte(0, 3));
        thrown("no such position", ELEMENT, () -> x.recordByte(0, -1));
        thrown("no such position", ELEMENT, () -> x.recordByte(2, MAX));
        about = "promise 32";
        due("recordFragments", x.recordFragments(0) + " " + x.recordFragments(1) + " " + x.recordFragments(2), "1 2 2");
        due("behind an incomplete one", restarted().recordFragments(0), 1);
        int[] odd = {3, -1, MAX, MIN, 400};
        for (int r : odd) {
            about = "promise 29";
            thrown("recordStart", INDEX, () -> x.recordStart(r));
            about = "promise 30";
            thrown("recordLength", INDEX, () -> x.recordLength(r));
            about = "promise 31";
            thrown("recordByte", INDEX, () -> x.recordByte(r, -1));
            about = "promise 32";
            thrown("recordFragments", INDEX, () -> x.recordFragments(r));
        }
        about = "promise 33";
        due("longestRecord", x.longestRecord(), 1);
        due("the smallest number", loaded("block 8;record a;record bb;record cc;record d;").longestRecord(), 1);
        due("none", loaded("block 8;").longestRecord(), -1);
        FramedLog e = loaded("block 8;record a;");
        e.damage(1, 1);
        e.repair(0);
        due("a record of 0 bytes", e.longestRecord() + " " + e.recordLength(0) + " " + e.recordCount(), "0 0 1");
    }

    /** A record that ends with FIRST, and a whole one in the next block. */
    private static FramedLog restarted() {
        FramedLog x = loaded("block 8;record abcde;record bcd;reader r;damage 2 3;");
        x.repair(0);
        return x;
    }

    private static void bytesByKind() {
        FramedLog x = new FramedLog();
        due34(x, 38, 0, 6);
        due34(loaded("block 8;"), 0, 0, 0);
        due34(loaded("block 8;record abc;record d;"), 10, 2, 0);
        // a fragment that fills its block has no padding, whether it is readable or not
        due34(loaded("block 8;record abcde;"), 8, 0, 0);
        due34(loaded("block 8;record abcde;damage 0 1;"), 0, 2, 6);
        due34(loaded("block 8;record abcde;cut 7;"), 0, 1, 6);
        due34(loaded("block 8;record abcde;cut 6;"), 0, 0, 6);
        due34(restarted(), 6, 2, 6);
        // an orphan in the last bytes
        due34(loaded("block 8;record abcdefgh;damage 3 1;"), 0, 2, 12);

        about = "promise 37";
        due("sharePayload", x.sharePayload(), (float) 23 / (float) 44);
        due("of an empty log", loaded("block 8;").sharePayload(), 0.0f);
        due("of no records", loaded("block 8;record a;damage 0 1;").sharePayload(), 0.0f);
        due("sharePayload", loaded("block 8;record a;").sharePayload(), 0.25f);
        about = "promise 38";
        due("meanRecordLength", x.meanRecordLength(), 23.0 / 3.0);
        due("of an empty log", loaded("block 8;").meanRecordLength(), 0.0);
        due("of no records", loaded("block 8;record a;damage 0 1;").meanRecordLength(), 0.0);
        due("meanRecordLength", loaded("block 8;record a;record bc;").meanRecordLength(), 1.5);
    }

    private static void due34(FramedLog x, int readable, int padding, int unreadable) {
        String log = " of " + all(x);
        FramedLog paddingFirst = copy(x);
        FramedLog unreadableFirst = copy(x);
        about = "promise 34";
        due("readableBytes" + log, x.readableBytes(), readable);
        about = "promise 35";
        due("paddingBytes" + log, x.paddingBytes(), padding);
        due("paddingBytes first" + log, paddingFirst.paddingBytes(), padding);
        about = "promise 36";
        due("unreadableBytes" + log, x.unreadableBytes(), unreadable);
        due("unreadableBytes first" + log, unreadableFirst.unreadableBytes(), unreadable);
        due("the sum" + log, x.readableBytes() + x.paddingBytes() + x.unreadableBytes(), x.logLength());
    }

    /** A new object with the same log, that has answered no question yet. */
    private static FramedLog copy(FramedLog x) {
        FramedLog c = loaded("block " + x.blockSize() + ";record " + A40 + ";record " + A40 + ";cut " + x.logLength() + ";");
        for (int i = 0; i < x.logLength(); i++) if (c.logByte(i) != x.logByte(i)) c.damage(i, c.logByte(i) ^ x.logByte(i));
        return c;
    }

    private static void nextRecords() {
        FramedLog x = new FramedLog();
        FramedLog d = loaded("block 8;record abcdef;record a;record b;damage 3 1;reader r;reader s;read s 20;");
        about = "promise 39";
        due("recordsLeft", x.recordsLeft(0) + " " + x.recordsLeft(1) + " " + d.recordsLeft(0) + " " + d.recordsLeft(1), "1 3 2 0");
        about = "promise 40";
        due("nextRecordLength", x.nextRecordLength(0) + " " + x.nextRecordLength(1) + " " + d.nextRecordLength(1), "4 3 -1");
        about = "promise 41";
        due("nextRecordStart", x.nextRecordStart(0) + " " + d.nextRecordStart(0) + " " + d.nextRecordStart(1), "28 12 -1");
        due("behind an incomplete one", restarted().nextRecordStart(0), 8);
        about = "promise 42";
        due("offsetAfterNext", x.offsetAfterNext(0) + " " + d.offsetAfterNext(0) + " " + d.offsetAfterNext(1), "38 16 -1");
        about = "promise 43";
        due("problemsBeforeNext", x.problemsBeforeNext(0) + " " + d.problemsBeforeNext(0) + " " + d.problemsBeforeNext(1), "0 2 -1");
        due("incomplete", restarted().problemsBeforeNext(0), 1);
        FramedLog f = loaded("block 8;record abcde;reader r;damage 3 1;");
        due("problems of a failed search", f.problemsBeforeNext(0), -1);
        for (int r : new int[] {2, -1, MAX, MIN}) {
            about = "promise 39";
            thrown("recordsLeft", INDEX, () -> x.recordsLeft(r));
            about = "promise 40";
            thrown("nextRecordLength", INDEX, () -> x.nextRecordLength(r));
            about = "promise 41";
            thrown("nextRecordStart", INDEX, () -> x.nextRecordStart(r));
            about = "promise 42";
            thrown("offsetAfterNext", INDEX, () -> x.offsetAfterNext(r));
            about = "promise 43";
            thrown("problemsBeforeNext", INDEX, () -> x.problemsBeforeNext(r));
        }
        due("nothing is changed", all(x), OPENING);
        about = "promise 44";
        due("slowestReader", x.slowestReader(), 1);
        due("the smallest number", loaded("block 8;record a;reader p;reader q;reader r;read p 1;").slowestReader(), 1);
        due("no readers", loaded("block 8;").slowestReader(), -1);
        FramedLog z = loaded("block 8;" + "record abcde;".repeat(40) + "reader z;");
        for (int i = 0; i < 10; i++) writes(z, "abcde");
        z.seek(0, 50);
        due("at the very end", z.readerOffset(0) + " " + z.slowestReader(), "400 0");
    }

    private static void writing() {
        FramedLog x = new FramedLog();
        about = "promise 45";
        due("writeCost", x.writeCost(1) + " " + x.writeCost(5) + " " + x.writeCost(40), "4 11 52");
        due("with padding", loaded("block 8;record abc;").writeCost(1) + " " + loaded("block 8;record abcd;").writeCost(5), "6 9");
        due("in an empty log", loaded("block 8;").writeCost(5) + " " + loaded("block 8;").writeCost(6), "8 12");
        due("with an empty fragment", loaded("block 8;record ab;").writeCost(1), 7);
        about = "promise 46";
        due("fragmentsFor", x.fragmentsFor(1) + " " + x.fragmentsFor(5) + " " + x.fragmentsFor(40), "1 2 4");
        due("with padding", loaded("block 8;record abc;").fragmentsFor(5), 1);
        due("with an empty fragment", loaded("block 8;record ab;").fragmentsFor(1), 2);
        for (int n : new int[] {0, 41, -1, MAX, MIN}) {
            about = "promise 45";
            thrown("writeCost", ARGUMENT, () -> x.writeCost(n));
            about = "promise 46";
            thrown("fragmentsFor", ARGUMENT, () -> x.fragmentsFor(n));
        }
        FramedLog full = loaded("block 8;" + "record abcde;".repeat(40));
        for (int i = 0; i < 10; i++) writes(full, "abcde");
        about = "promise 45";
        due("whether it fits or not", full.logLength() + " " + full.writeCost(40), "400 64");
        about = "promise 46";
        due("whether it fits or not", full.fragmentsFor(40), 8);
    }

    private static void whatIf() {
        FramedLog x = new FramedLog();
        about = "promise 47";
        due("recordsIfDamaged", x.recordsIfDamaged(0) + " " + x.recordsIfDamaged(20) + " " + x.recordsIfDamaged(30) + " " + x.recordsIfDamaged(43),
                "1 1 2 3");
        FramedLog p = loaded("block 8;record abc;record d;");
        due("padding", p.recordsIfDamaged(6) + " " + p.recordsIfDamaged(7), "2 2");
        thrown("recordsIfDamaged(44)", INDEX, () -> x.recordsIfDamaged(44));
        thrown("recordsIfDamaged(-1)", INDEX, () -> x.recordsIfDamaged(-1));
        thrown("recordsIfDamaged(MAX)", INDEX, () -> x.recordsIfDamaged(MAX));
        about = "promise 48";
        due("weakestOffset", x.weakestOffset(), 0);
        due("not the first", loaded("block 8;record abcde;record a;record b;").weakestOffset(), 8);
        due("none", loaded("block 8;").weakestOffset(), -1);
        due("no records", loaded("block 8;record a;damage 0 1;").weakestOffset(), 0);
        about = "promise 49";
        due("recordsIfTruncated", x.recordsIfTruncated(0) + " " + x.recordsIfTruncated(5) + " " + x.recordsIfTruncated(6) + " "
                + x.recordsIfTruncated(27) + " " + x.recordsIfTruncated(28) + " " + x.recordsIfTruncated(44), "0 0 1 1 2 3");
        due("as the first question", new FramedLog().recordsIfTruncated(28), 2);
        thrown("recordsIfTruncated(45)", ARGUMENT, () -> x.recordsIfTruncated(45));
        thrown("recordsIfTruncated(-1)", ARGUMENT, () -> x.recordsIfTruncated(-1));
        thrown("recordsIfTruncated(MIN)", ARGUMENT, () -> x.recordsIfTruncated(MIN));
        about = "promise 47";
        due("nothing is changed", all(x), OPENING);
        due("nothing is remembered", x.undoDepth(), 0);
    }

    private static void writeRecord() {
        about = "promise 50";
        FramedLog x = loaded("block 8;");
        thrown("of nothing", ARGUMENT, x::writeRecord);
        type(x, A40 + "a");
        thrown("of 41 bytes", ARGUMENT, x::writeRecord);
        due("the input is as before", x.truncateInput(41), 41);
        due("40 bytes", x.truncateInput(40), 40);
        due("writeRecord", x.writeRecord(), 8);
        thrown("the input is empty", ARGUMENT, () -> x.truncateInput(1));
        due("logLength", x.logLength() + " " + x.recordCount() + " " + x.recordLength(0) + " " + x.writtenRecords(), "64 1 40 1");
        type(x, "\u0000");
        due("any byte", x.writeRecord(), 1);
        due("any byte", x.recordByte(1, 0), 0);
        type(x, "; ");
        due("an empty first fragment does not follow", x.writeRecord(), 2);
        due("bytes", x.logByte(68) + " " + x.logByte(69) + " " + x.logByte(70) + " " + x.logByte(71) + " " + x.logByte(72),
                ((14 + 3 + 59) % 251) + " 1 2 59 " + ((28 + 3 + 32) % 251));
        FramedLog p = loaded("block 8;record abcd;");
        writes(p, "a");
        due("padding is 0", bytes(p), "5 4 1 97 98 99 100 0 107 1 1 97");
        FramedLog full = loaded("block 8;" + "record abcde;".repeat(40));
        for (int i = 0; i < 9; i++) writes(full, "abcde");
        type(full, "abcdef");
        thrown("over 400", STATE, full::writeRecord);
        due("nothing is changed", full.logLength() + " " + full.writtenRecords() + " " + full.recordCount(), "392 49 49");
        due("the input is as before", full.truncateInput(5), 5);
        due("to 400", full.writeRecord(), 1);
        due("400", full.logLength(), 400);
        type(full, A40 + "a");
        thrown("both exceptions", ARGUMENT, full::writeRecord);
    }

    private static void addReader() {
        about = "promise 51";
        FramedLog x = new FramedLog();
        for (String bad : new String[] {"", "abcde", "Ab", "a1", "a b", "a\u0000", "\u00e1", "`", "{", "a;"}) {
            type(x, bad);
            thrown("addReader of <" + bad + ">", ARGUMENT, x::addReader);
            due("the input is as before", x.truncateInput(bad.length()), bad.length());
        }
        type(x, "ada");
        thrown("a name that is taken", STATE, x::addReader);
        due("the input is as before", x.truncateInput(2), 2);
        due("addReader", x.addReader(), 2);
        thrown("the input is empty", ARGUMENT, () -> x.truncateInput(1));
        due("the new reader", name(x, 2) + " " + x.readerOffset(2) + " " + x.recordsRead(2), "ad 0 0");
        type(x, "zazz");
        due("addReader", x.addReader(), 3);
        type(x, "b");
        thrown("a fifth reader", STATE, x::addReader);
        type(x, "B");
        thrown("both exceptions", ARGUMENT, x::addReader);
        due("readerCount", x.readerCount() + " " + x.undoDepth(), "4 2");
        // a reader that comes into the place of another one starts anew
        x.undo();
        x.undo();
        FramedLog y = troubled();
        type(y, "block 8;");
        y.load();
        type(y, "s");
        y.addReader();
        due("counts start anew", all(y), "8||0|s 0 0 0 0 0");
    }

    private static void read() {
        about = "promise 52";
        FramedLog x = new FramedLog();
        due("read(1)", x.read(1), 3);
        due("output", output(x, 3), "hem");
        thrown("behind the output", ELEMENT, () -> x.outputByte(3));
        due("read(1)", x.read(1), 16);
        due("output", output(x, 16), "longthreadofwool");
        due("read(1)", x.read(1), 4);
        due("output", output(x, 4), "knot");
        thrown("the previous output is discarded", ELEMENT, () -> x.outputByte(4));
        String before = all(x);
        thrown("the search fails", ELEMENT, () -> x.read(1));
        due("nothing is changed", all(x), before);
        due("the output is as before", output(x, 4), "knot");
        due("undoDepth", x.undoDepth(), 3);
        for (int r : new int[] {2, -1, MAX, MIN}) thrown("no such reader", INDEX, () -> x.read(r));
        due("state", before.substring(before.indexOf("|ada")), "|ada 28 2 0 0 0|ben 38 3 0 0 0");
        FramedLog b = loaded("block 8;reader r;");
        writes(b, "\u00ff\u0000\u0080");
        b.read(0);
        due("bytes", b.outputByte(0) + " " + b.outputByte(1) + " " + b.outputByte(2), "255 0 128");
        FramedLog e = loaded("block 8;record a;reader r;");
        e.damage(1, 1);
        e.repair(0);
        due("a record of 0 bytes", e.read(0) + " " + e.readerOffset(0), "0 3");
        thrown("no output", ELEMENT, () -> e.outputByte(0));
    }

    private static void searchSteps() {
        about = "promise 52";
        FramedLog a = loaded("block 8;record abc;record de;reader r;read r 1;");
        a.read(0);
        due("(a) padding is skipped", counts(a, 0), "13 2 0 0 0");
        FramedLog b = loaded("block 8;record abc;reader r;cut 2;");
        thrown("(b) the header is cut", ELEMENT, () -> b.read(0));
        FramedLog c = loaded("block 8;record abcde;record f;reader r;damage 2 4;");
        c.read(0);
        due("(c) type 5", counts(c, 0), "12 1 1 0 0");
        FramedLog c2 = loaded("block 8;record abcde;record f;reader r;damage 1 3;");
        c2.read(0);
        due("(c) the payload leaves the block", counts(c2, 0), "12 1 1 0 0");
        FramedLog c3 = loaded("block 8;record abc;reader r;damage 1 128;");
        thrown("(c) before (d)", ELEMENT, () -> c3.read(0));
        type(c3, "x");
        c3.writeRecord();
        due("(c) before (d)", c3.read(0) + " " + counts(c3, 0), "1 12 1 1 0 0");
        FramedLog d = loaded("block 8;record abcde;reader r;cut 7;");
        thrown("(d) the payload is cut", ELEMENT, () -> d.read(0));
        due("(d) no problem is added", counts(d, 0), "0 0 0 0 0");
        FramedLog e = loaded("block 8;record abcde;record f;reader r;damage 0 1;");
        e.read(0);
        due("(e) a wrong checksum", counts(e, 0), "12 1 1 0 0");
        FramedLog e2 = loaded("block 8;record abcdefghijkl;record m;reader r;damage 8 1;");
        due("(e) ends a record", e2.read(0) + " " + counts(e2, 0), "1 " + e2.readerOffset(0) + " 1 1 0 1");
        FramedLog f = restarted();
        f.read(0);
        due("(f) incomplete by FULL", counts(f, 0), "14 1 0 1 0");
        FramedLog f2 = loaded("block 8;record abcde;record fghijk;reader r;damage 2 3;");
        f2.repair(0);
        due("(f) incomplete by FIRST", f2.read(0) + " " + counts(f2, 0), "6 20 1 0 1 0");
        FramedLog f3 = loaded("block 16;record abc;record def;reader r;damage 2 2;");
        f3.repair(0);
        due("(f) orphan MIDDLE, in the same block", f3.read(0) + " " + counts(f3, 0), "3 12 1 0 0 1");
        FramedLog f4 = loaded("block 16;record abc;record def;reader r;damage 2 5;");
        f4.repair(0);
        due("(f) orphan LAST", f4.read(0) + " " + counts(f4, 0), "3 12 1 0 0 1");
        FramedLog t = troubled();
        due("(g) the problems are added", counts(t, 0), "48 2 2 2 2");
        due("a search without problems adds none", t.read(0) + " " + counts(t, 0), "1 52 3 2 2 2");
        FramedLog g = loaded("block 8;record " + "x".repeat(35) + ";record yyyyy;record zzzzz;reader r;");
        g.damage(6 * 8 + 2, 4 ^ 3);
        g.repair(6 * 8);
        g.damage(7 * 8 + 2, 1 ^ 3);
        g.repair(7 * 8);
        g.damage(8 * 8 + 2, 1 ^ 4);
        g.repair(8 * 8);
        due("(g) more than 40 bytes", g.read(0) + " " + g.recordFragments(0) + " " + g.outputByte(44), "45 9 122");
        FramedLog h = loaded("block 8;record abcdef;record a;record b;damage 3 1;cut 14;reader r;");
        thrown("problems, and then no record", ELEMENT, () -> h.read(0));
        due("the reader does not change", counts(h, 0), "0 0 0 0 0");
    }

    /** A reader that has met each kind of problem once before each of two records. */
    private static FramedLog troubled() {
        String twice = "record abcde;record abcde;record a;record b;";
        FramedLog x = loaded("block 8;reader r;" + twice + twice + "record c;damage 0 1;damage 24 1;");
        for (int from = 0; from <= 24; from += 24) {
            x.damage(from + 10, FramedLog.FULL ^ FramedLog.LAST);
            x.repair(from + 8);
            x.damage(from + 18, FramedLog.FULL ^ FramedLog.FIRST);
            x.repair(from + 16);
            x.read(0);
        }
        return x;
    }

    private static void seek() {
        about = "promise 53";
        FramedLog x = new FramedLog();
        due("seek", x.seek(0, 1) + " " + x.readerOffset(0) + " " + x.recordsRead(0), "16 16 2");
        due("to the last block", x.seek(0, 2), 32);
        due("to the end", x.seek(0, 3) + " " + x.readerOffset(0), "44 44");
        due("to the start", x.seek(1, 0), 0);
        due("undoDepth", x.undoDepth(), 4);
        thrown("no such block", ARGUMENT, () -> x.seek(0, 4));
        thrown("no such block", ARGUMENT, () -> x.seek(0, -1));
        thrown("no such block", ARGUMENT, () -> x.seek(0, MAX));
        thrown("no such block", ARGUMENT, () -> x.seek(0, 1 << 28));
        thrown("no such reader", INDEX, () -> x.seek(2, 0));
        thrown("both exceptions", INDEX, () -> x.seek(-1, -1));
        due("undoDepth", x.undoDepth(), 4);
        FramedLog e = loaded("block 8;reader r;");
        due("in an empty log", e.seek(0, 0), 0);
        thrown("in an empty log", ARGUMENT, () -> e.seek(0, 1));
        FramedLog d = loaded("block 8;record abcde;record a;damage 0 1;reader r;read r 1;");
        d.seek(0, 0);
        due("the counts do not change", counts(d, 0), "0 1 1 0 0");
    }

    private static void truncateLog() {
        about = "promise 54";
        FramedLog x = new FramedLog();
        due("truncateLog(44)", x.truncateLog(44), 0);
        due("truncateLog(28)", x.truncateLog(28) + " " + x.readerOffset(0), "16 28");
        due("truncateLog(27)", x.truncateLog(27) + " " + x.readerOffset(0) + " " + x.recordsRead(0) + " " + x.readerOffset(1), "1 27 2 0");
        due("writtenRecords", x.writtenRecords(), 4);
        thrown("truncateLog(28)", ARGUMENT, () -> x.truncateLog(28));
        thrown("truncateLog(-1)", ARGUMENT, () -> x.truncateLog(-1));
        thrown("truncateLog(MAX)", ARGUMENT, () -> x.truncateLog(MAX));
        due("truncateLog(0)", x.truncateLog(0) + " " + x.logLength() + " " + x.readerOffset(0), "27 0 0");
        due("undoDepth", x.undoDepth(), 4);
    }

    private static void damage() {
        about = "promise 55";
        FramedLog x = new FramedLog();
        due("damage(0, 1)", x.damage(0, 1) + " " + x.logByte(0), "146 146");
        due("damage(43, 255)", x.damage(43, 255) + " " + x.logByte(43), "156 156");
        due("damage twice", x.damage(43, 255), 99);
        due("undoDepth", x.undoDepth(), 3);
        thrown("damage(44, 1)", INDEX, () -> x.damage(44, 1));
        thrown("damage(-1, 1)", INDEX, () -> x.damage(-1, 1));
        thrown("damage(44, 0)", INDEX, () -> x.damage(44, 0));
        thrown("damage(0, 0)", ARGUMENT, () -> x.damage(0, 0));
        thrown("damage(0, 256)", ARGUMENT, () -> x.damage(0, 256));
        thrown("damage(0, MIN)", ARGUMENT, () -> x.damage(0, MIN));
        due("undoDepth", x.undoDepth(), 3);
    }

    private static void repair() {
        about = "promise 56";
        FramedLog x = new FramedLog();
        due("repair(38)", x.repair(38) + " " + x.logByte(38) + " " + x.recordCount(), "104 102 4");
        due("repair of a right one", x.repair(0) + " " + x.logByte(0), "147 147");
        due("undoDepth", x.undoDepth(), 2);
        for (int at : new int[] {1, -1, 44, MAX, MIN}) thrown("repair", ARGUMENT, () -> x.repair(at));
        due("undoDepth", x.undoDepth(), 2);
    }

    private static void dropBlocks() {
        about = "promise 57";
        FramedLog x = new FramedLog();
        thrown("dropBlocks(0)", ARGUMENT, () -> x.dropBlocks(0));
        thrown("dropBlocks(-1)", ARGUMENT, () -> x.dropBlocks(-1));
        thrown("the shorter block", ARGUMENT, () -> x.dropBlocks(3));
        thrown("dropBlocks(MAX)", ARGUMENT, () -> x.dropBlocks(MAX));
        due("undoDepth", x.undoDepth(), 0);
        due("dropBlocks(1)", x.dropBlocks(1), 28);
        due("state", all(x), "16|186 9 4 101 97 100 111 102 119 111 111 108 124 1 2 107 215 3 4 110 111 116 104 3 1 97 97 99"
                + "|4|ada 12 2 0 0 0|ben 0 0 0 0 0");
        due("undo", x.undo() + " " + all(x).equals(OPENING), "0 true");
        due("dropBlocks(2)", x.dropBlocks(2) + " " + x.readerOffset(0), "12 0");
        FramedLog w = loaded("block 8;record abcde;record abcde;");
        due("all blocks", w.dropBlocks(2) + " " + w.logLength(), "0 0");
        thrown("of an empty log", ARGUMENT, () -> w.dropBlocks(1));
    }

    private static void compact() {
        about = "promise 58";
        FramedLog x = new FramedLog();
        due("compact", x.compact(), 6);
        due("state", all(x), OPENING.substring(0, OPENING.indexOf(" 104 3 1 97 97 99")) + "|4|ada 28 2 0 0 0|ben 0 0 0 0 0");
        due("undo", x.undo() + " " + all(x).equals(OPENING), "0 true");
        FramedLog d = loaded("block 16;record abc;record def;record ghijklmnop;record q;reader a;reader b;reader c;reader d;"
                + "read a 1;read b 2;read c 4;damage 0 1;");
        // abc is broken, and with it its block: a search finds the LAST of ghijklmnop in block 1, and then q
        due("counts before", d.recordCount() + " " + d.recordStart(0) + " " + d.readerOffset(0) + " " + d.readerOffset(1) + " "
                + d.readerOffset(2) + " " + d.logLength(), "1 28 6 12 32 32");
        due("compact", d.compact(), 28);
        due("state", all(d), "16|123 1 1 113|4|a 0 1 0 0 0|b 0 2 0 0 0|c 4 4 0 0 0|d 0 0 0 0 0");
        FramedLog e = loaded("block 8;record abc;record de;record fgh;reader a;read a 1;reader b;read b 2;damage 0 1;");
        FramedLog c = loaded("block 8;record abcde;record fghij;record klmno;reader r;");
        due("compact of a compact log", c.compact() + " " + c.readerOffset(0), "0 0");
        c.damage(0, 1);
        c.seek(0, 1);
        due("compact again", c.compact() + " " + c.readerOffset(0), "8 0");
        due("offsets", e.compact() + " " + e.readerOffset(0) + " " + e.readerOffset(1), "8 0 5");
        FramedLog n = loaded("block 8;record abc;reader a;read a 1;damage 0 1;");
        due("no records", n.compact() + " " + all(n), "6 8||1|a 0 1 0 0 0");
        due("of an empty log", loaded("block 8;").compact(), 0);
        FramedLog full = loaded("block 8;" + "record abcde;".repeat(40));
        for (int i = 0; i < 10; i++) writes(full, "abcde");
        due("of a full log", full.compact() + " " + full.logLength() + " " + full.recordCount(), "0 400 50");
        FramedLog z = loaded("block 8;record a;record b;reader r;");
        z.damage(1, 1);
        z.repair(0);
        due("a record of 0 bytes", z.recordCount() + " " + z.compact() + " " + z.recordCount() + " " + z.recordLength(0), "1 5 1 0");
        FramedLog p = loaded("block 8;record abcdef;record abc;record d;reader r;read r 1;");
        p.seek(0, 1);
        due("the first start not less than the offset", p.compact() + " " + p.readerOffset(0) + " " + p.recordStart(1), "0 12 12");
    }

    private static void describeBlock() {
        about = "promise 59";
        FramedLog x = new FramedLog();
        due("blocks", described(x, 0) + "," + described(x, 1) + "," + described(x, 2), "F3 I7,L9 I1,L3 F3!");
        thrown("the previous output is discarded", ELEMENT, () -> x.outputByte(6));
        due("padding", described(loaded("block 8;record abc;record d;"), 0), "F3 +2");
        due("no fragments", described(loaded("block 16;record abcdefghijklm;damage 2 4;"), 0), "+16");
        due("MIDDLE and two digits", described(loaded("block 32;record " + A40 + ";record " + A40 + ";damage 32 1;"), 1), "L11! I15");
        due("MIDDLE", described(loaded("block 8;record abcdefghijklm;"), 1), "M5");
        due("1 byte", described(loaded("block 8;record abcd;record e;"), 0), "F4 +1");
        due("10", described(loaded("block 32;record abcdefghij;"), 0), "F10");
        due("20", described(loaded("block 32;record abcdefghijklmnopqrst;"), 0), "F20");
        due("29", described(loaded("block 32;record abcdefghijklmnopqrstuvwxyzabc;"), 0), "F29");
        due("32", described(loaded("block 32;record abcdefghijklmnopqrstuvwxyzabc;damage 1 128;"), 0), "+32");
        due("length 0", described(loaded("block 8;record ab;record c;"), 0), "F2 I0");
        due("a shorter block", described(loaded("block 32;record abc;record defghijklmnop;cut 18;"), 0), "F3 +12");
        thrown("no such block", INDEX, () -> x.describeBlock(3));
        thrown("no such block", INDEX, () -> x.describeBlock(-1));
        thrown("no such block", INDEX, () -> x.describeBlock(MAX));
        due("the output is as before", output(x, 6), "L3 F3!");
        due("no undoable call", x.undoDepth(), 0);
        about = "promise 60";
        due("outputByte(0)", x.outputByte(0), 76);
        thrown("outputByte(6)", ELEMENT, () -> x.outputByte(6));
        thrown("outputByte(-1)", ELEMENT, () -> x.outputByte(-1));
        thrown("outputByte(MAX)", ELEMENT, () -> x.outputByte(MAX));
        x.read(1);
        x.undo();
        due("undo leaves the output", output(x, 3), "hem");
    }

    private static void slots() {
        FramedLog x = new FramedLog();
        about = "promise 61";
        due("save", x.save(0), 44);
        due("no undoable call", x.undoDepth(), 0);
        for (int slot : new int[] {2, -1, MAX, MIN}) thrown("no such slot", INDEX, () -> x.save(slot));
        about = "promise 62";
        for (int slot : new int[] {2, -1, MAX, MIN}) thrown("no such slot", INDEX, () -> x.restore(slot));
        thrown("an empty slot", STATE, () -> x.restore(1));
        due("nothing is remembered", x.undoDepth(), 0);
        x.damage(0, 1);
        x.read(1);
        type(x, "block 8;record abc;");
        x.load();
        due("save(1)", x.save(1), 6);
        due("restore(0)", x.restore(0) + " " + all(x).equals(OPENING) + " " + x.undoDepth(), "44 true 4");
        due("restore(1)", x.restore(1) + " " + all(x), "6 8|104 3 1 97 98 99|1");
        x.truncateLog(0);
        due("the slot keeps its content", x.restore(1) + " " + all(x), "6 8|104 3 1 97 98 99|1");
        due("the slot keeps its content", x.restore(0) + " " + all(x).equals(OPENING), "44 true");
        x.dropBlocks(1);
        x.save(0);
        x.undo();
        due("undo leaves the slots", x.restore(0), 28);
        about = "promise 61";
        FramedLog t = troubled();
        String troubles = all(t);
        t.save(0);
        t.truncateLog(0);
        type(t, "block 9;reader r;");
        t.load();
        t.restore(0);
        due("the counts are kept", all(t), troubles);
        due("the previous content is discarded", x.save(0) + " " + x.save(1) + " " + x.restore(1), "28 28 28");
    }

    private static void undo() {
        about = "promise 63";
        FramedLog x = loaded("block 8;record a;record b;reader r;cut 7;");
        String[] states = new String[12];
        for (int i = 0; i < 12; i++) {
            states[i] = all(x);
            x.damage(i % 7, 255);
            about = "promise 64";
            due("undoDepth", x.undoDepth(), Math.min(i + 2, 8));
        }
        about = "promise 63";
        for (int i = 7; i >= 0; i--) {
            due("undo", x.undo(), i);
            due("state", all(x), states[i + 4]);
        }
        thrown("no call is remembered", STATE, x::undo);
        due("nothing is changed", all(x), states[4]);
        about = "promise 64";
        due("undoDepth", x.undoDepth(), 0);

        about = "promise 63";
        FramedLog y = new FramedLog();
        type(y, "block 8;record a;reader q;");
        y.load();
        String[] kept = new String[10];
        int n = 0;
        kept[n++] = all(y);
        writes(y, "z");
        kept[n++] = all(y);
        type(y, "w");
        y.addReader();
        kept[n++] = all(y);
        y.read(0);
        kept[n++] = all(y);
        y.seek(0, 1);
        kept[n++] = all(y);
        y.damage(1, 1);
        kept[n++] = all(y);
        y.repair(0);
        kept[n++] = all(y);
        y.compact();
        kept[n++] = all(y);
        for (int i = 6; i >= 0; i--) due("undo to " + i, y.undo() + " " + all(y).equals(kept[i]), (i + 1) + " true");
        due("undo of load", y.undo() + " " + all(y).equals(OPENING), "0 true");
        FramedLog z = new FramedLog();
        z.save(0);
        z.truncateLog(3);
        z.restore(0);
        z.dropBlocks(1);
        due("undo of dropBlocks", z.undo() + " " + all(z).equals(OPENING), "2 true");
        due("undo of restore", z.undo() + " " + z.logLength(), "1 3");
        due("undo of truncateLog", z.undo() + " " + all(z).equals(OPENING), "0 true");
        type(z, "abc");
        z.damage(0, 1);
        z.undo();
        due("undo leaves the input", z.truncateInput(3), 3);
    }
}
