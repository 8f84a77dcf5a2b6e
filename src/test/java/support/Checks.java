import java.util.NoSuchElementException;

/**
 * What the project's tests share: they compare answers with the due ones, and make and look at logs.
 * An object is used for at most 512 calls, because the document leaves free what later ones answer; hence so many new
 * objects, made by a Make.
 */
abstract class Checks {
    static final Class<?> INDEX = IndexOutOfBoundsException.class;
    static final Class<?> ARGUMENT = IllegalArgumentException.class;
    static final Class<?> STATE = IllegalStateException.class;
    static final Class<?> ELEMENT = NoSuchElementException.class;
    static final int MIN = Integer.MIN_VALUE, MAX = Integer.MAX_VALUE;
    static final String A29 = "a".repeat(29);
    static final String A40 = "a".repeat(40);
    static final String OPENING_TEXT =
            "block 16;record hem;record longthreadofwool;reader ada;reader ben;record knot;record abc;read ada 2;damage 42 3;";
    /** 12 full blocks of 32 bytes and 16 bytes more: the longest log that there is. */
    static final String FULL_TEXT = "block 32;" + ("record " + A29 + ";").repeat(12) + "record bbbbbbbbbbbbb;";

    static int wrong = 0;
    static String about = "";

    interface Call {
        Object run();
    }

    interface Make {
        FramedLog make();
    }

    interface On {
        Object call(FramedLog x);
    }

    static void due(String call, Object got, Object want) {
        if (!got.equals(want)) {
            wrong++;
            System.out.println(about + ": " + call + " answered " + got + ", due is " + want);
        }
    }

    /** The exact class, because the machine's own exceptions are kinds of the document's. */
    static Object answer(Call call) {
        try {
            return call.run();
        } catch (RuntimeException e) {
            return e.getClass();
        }
    }

    static void thrown(String what, Class<?> want, Call call) {
        due(what, answer(call), want);
    }

    static void tellTheEnd() {
        System.out.println(wrong == 0 ? "all answers are as due" : wrong + " answers are not as due");
        if (wrong != 0) System.exit(1);
    }

    private static int pack(String s, int from) {
        int word = 0;
        for (int i = from; i < from + 4; i++) word = word << 8 | (i < s.length() ? s.charAt(i) : 0);
        return word;
    }

    static void type(FramedLog x, String s) {
        x.truncateInput(0);
        for (int i = 0; i < s.length(); i += 20) {
            x.appendInput(pack(s, i), pack(s, i + 4), pack(s, i + 8), pack(s, i + 12), pack(s, i + 16));
        }
        x.truncateInput(s.length());
    }

    static FramedLog loaded(String text) {
        FramedLog x = new FramedLog();
        type(x, text);
        x.load();
        return x;
    }

    static int writes(FramedLog x, String bytes) {
        type(x, bytes);
        return x.writeRecord();
    }

    static String output(FramedLog x, int length) {
        StringBuilder s = new StringBuilder();
        for (int i = 0; i < length; i++) s.append((char) x.outputByte(i));
        return s.toString();
    }

    static String described(FramedLog x, int block) {
        return output(x, x.describeBlock(block));
    }

    static String bytes(FramedLog x) {
        StringBuilder s = new StringBuilder();
        int length = x.logLength();
        for (int i = 0; i < length; i++) s.append(i == 0 ? "" : " ").append(x.logByte(i));
        return s.toString();
    }

    static String record(FramedLog x, int record) {
        StringBuilder s = new StringBuilder();
        int length = x.recordLength(record);
        for (int i = 0; i < length; i++) s.append((char) x.recordByte(record, i));
        return s.toString();
    }

    static String name(FramedLog x, int reader) {
        StringBuilder s = new StringBuilder();
        try {
            for (int i = 0; i < 9; i++) s.append((char) x.readerNameByte(reader, i));
        } catch (NoSuchElementException e) {
            return s.toString();
        }
        return "endless";
    }

    /** The offset of a reader, its records, and its problems: damage, incomplete, orphan. */
    static String counts(FramedLog x, int reader) {
        return x.readerOffset(reader) + " " + x.recordsRead(reader) + " " + x.damageProblems(reader) + " "
                + x.incompleteProblems(reader) + " " + x.orphanProblems(reader);
    }

    /** All of the state that the document names. */
    static String all(FramedLog x) {
        StringBuilder s = new StringBuilder();
        s.append(x.blockSize()).append('|').append(bytes(x)).append('|').append(x.writtenRecords());
        int readers = x.readerCount();
        for (int r = 0; r < readers; r++) s.append('|').append(name(x, r)).append(' ').append(counts(x, r));
        return s.toString();
    }

    /** A fragment with the right checksum; its letters are the payload's bytes. */
    static String fragment(int type, String payload) {
        int sum = 7 * type + 3 * payload.length();
        for (int i = 0; i < payload.length(); i++) sum += (i + 1) * payload.charAt(i);
        return (char) (sum % 251) + "" + (char) payload.length() + (char) type + payload;
    }

    static String full(String payload) {
        return fragment(FramedLog.FULL, payload);
    }

    static String first(String payload) {
        return fragment(FramedLog.FIRST, payload);
    }

    static String middle(String payload) {
        return fragment(FramedLog.MIDDLE, payload);
    }

    static String last(String payload) {
        return fragment(FramedLog.LAST, payload);
    }

    /** The same fragment with a wrong checksum. */
    static String broken(String fragment) {
        return (char) (fragment.charAt(0) ^ 1) + fragment.substring(1);
    }

    /** A log of these bytes, made by damage, and one reader at the offset 0. */
    static FramedLog raw(int blockSize, String bytes) {
        FramedLog x = loaded("block " + blockSize + ";" + ("record " + A40 + ";").repeat(3) + "cut " + bytes.length() + ";reader r;");
        for (int i = 0; i < bytes.length(); i++) {
            int mask = x.logByte(i) ^ bytes.charAt(i);
            if (mask != 0) x.damage(i, mask);
        }
        return x;
    }
}
