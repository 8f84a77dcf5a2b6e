import java.lang.reflect.Constructor;
import java.lang.reflect.Field;
import java.lang.reflect.Method;
import java.lang.reflect.Modifier;
import java.util.Set;
import java.util.TreeSet;

/** The class has the public face that the document shows, and no other public member. */
public final class FramedLogFace extends Checks {
    /** As the document writes them; which exceptions come when is told by their calls, not by the clause. */
    private static final String METHODS = """
            public int appendInput(int a, int b, int c, int d, int e) throws IllegalStateException
            public int truncateInput(int length) throws IllegalArgumentException
            public int load() throws IllegalArgumentException
            public int errorCode()
            public int errorPosition()
            public int blockSize()
            public int logLength()
            public int blockCount()
            public int logByte(int offset) throws IndexOutOfBoundsException
            public int writtenRecords()
            public int readerCount()
            public int readerNameByte(int reader, int position) throws IndexOutOfBoundsException, NoSuchElementException
            public int readerOffset(int reader) throws IndexOutOfBoundsException
            public int recordsRead(int reader) throws IndexOutOfBoundsException
            public int damageProblems(int reader) throws IndexOutOfBoundsException
            public int incompleteProblems(int reader) throws IndexOutOfBoundsException
            public int orphanProblems(int reader) throws IndexOutOfBoundsException
            public boolean isFragmentStart(int offset) throws IndexOutOfBoundsException
            public int fragmentType(int offset) throws IllegalArgumentException
            public int fragmentLength(int offset) throws IllegalArgumentException
            public int expectedChecksum(int offset) throws IllegalArgumentException
            public boolean isChecksumRight(int offset) throws IllegalArgumentException
            public int fragmentCount()
            public int wrongChecksums()
            public int firstWrongChecksum()
            public int bytesAfterFragments(int block) throws IndexOutOfBoundsException
            public int recordCount()
            public int recordStart(int record) throws IndexOutOfBoundsException
            public int recordLength(int record) throws IndexOutOfBoundsException
            public int recordByte(int record, int position) throws IndexOutOfBoundsException, NoSuchElementException
            public int recordFragments(int record) throws IndexOutOfBoundsException
            public int longestRecord()
            public int readableBytes()
            public int paddingBytes()
            public int unreadableBytes()
            public float sharePayload()
            public double meanRecordLength()
            public int recordsLeft(int reader) throws IndexOutOfBoundsException
            public int nextRecordLength(int reader) throws IndexOutOfBoundsException
            public int nextRecordStart(int reader) throws IndexOutOfBoundsException
            public int offsetAfterNext(int reader) throws IndexOutOfBoundsException
            public int problemsBeforeNext(int reader) throws IndexOutOfBoundsException
            public int slowestReader()
            public int writeCost(int length) throws IllegalArgumentException
            public int fragmentsFor(int length) throws IllegalArgumentException
            public int recordsIfDamaged(int offset) throws IndexOutOfBoundsException
            public int weakestOffset()
            public int recordsIfTruncated(int length) throws IllegalArgumentException
            public int writeRecord() throws IllegalArgumentException, IllegalStateException
            public int addReader() throws IllegalArgumentException, IllegalStateException
            public int read(int reader) throws IndexOutOfBoundsException, NoSuchElementException
            public int seek(int reader, int block) throws IndexOutOfBoundsException, IllegalArgumentException
            public int truncateLog(int length) throws IllegalArgumentException
            public int damage(int offset, int mask) throws IndexOutOfBoundsException, IllegalArgumentException
            public int repair(int offset) throws IllegalArgumentException
            public int dropBlocks(int blocks) throws IllegalArgumentException
            public int compact() throws IllegalStateException
            public int describeBlock(int block) throws IndexOutOfBoundsException
            public int outputByte(int position) throws NoSuchElementException
            public int save(int slot) throws IndexOutOfBoundsException
            public int restore(int slot) throws IndexOutOfBoundsException, IllegalStateException
            public int undo() throws IllegalStateException
            public int undoDepth()
            """;

    /** What the document does not promise. */
    private static final Set<String> LEFT_FREE = Set.of("toString", "equals", "hashCode");

    public static void main(String[] args) {
        about = "the public face";
        due("the class", Modifier.toString(FramedLog.class.getModifiers()), "public final");
        methods();
        constants();
        constructors();
        due("public classes inside", FramedLog.class.getClasses().length, 0);
        tellTheEnd();
    }

    private static void methods() {
        Set<String> want = new TreeSet<>();
        for (String line : METHODS.split("\n")) want.add(line.replaceAll(" throws .*", "").replaceAll("int \\w+(?=[,)])", "int"));
        due("the number of the document's methods", want.size(), 63);
        Set<String> got = new TreeSet<>();
        for (Method m : FramedLog.class.getDeclaredMethods()) {
            if (Modifier.isPublic(m.getModifiers()) && !LEFT_FREE.contains(m.getName())) got.add(told(m));
        }
        due("the methods", got, want);
    }

    private static String told(Method m) {
        return m.toGenericString().replace("FramedLog.", "").replaceAll(" throws .*", "").replace(",", ", ");
    }

    private static void constants() {
        Set<String> got = new TreeSet<>();
        for (Field f : FramedLog.class.getDeclaredFields()) {
            if (Modifier.isPublic(f.getModifiers())) got.add(f.toGenericString().replace("FramedLog.", ""));
        }
        Set<String> want = new TreeSet<>();
        for (String name : "NONE FULL FIRST MIDDLE LAST".split(" ")) want.add("public static final int " + name);
        due("the constants", got, want);
        due("their values", FramedLog.NONE + " " + FramedLog.FULL + " " + FramedLog.FIRST + " " + FramedLog.MIDDLE + " " + FramedLog.LAST, "-1 1 2 3 4");
    }

    private static void constructors() {
        Constructor<?>[] all = FramedLog.class.getConstructors();
        due("the constructors", all.length + " " + all[0].toGenericString(), "1 public FramedLog()");
    }
}
