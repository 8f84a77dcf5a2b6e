/** What README.md shows: its calls answer what its comments say. */
public final class FramedLogReadme extends Checks {
    public static void main(String[] args) {
        FramedLog log = new FramedLog();
        writeAndRead(log);
        loadText(log);
        damageAndBack(log);
        tellTheEnd();
    }

    private static void writeAndRead(FramedLog log) {
        about = "README: write and read";
        due("records of a new log", log.writtenRecords() + " " + name(log, 0) + " " + name(log, 1), "4 ada ben");
        log.appendInput(0x68656c6c, 0x6f000000, 0, 0, 0);
        log.truncateInput(5);
        log.writeRecord();
        due("hello", log.writtenRecords() + " " + described(log, 2) + " " + described(log, 3), "5 L3 F3! I1 L4");
        due("its letters", letters(log, 47, 48) + letters(log, 51, 55), "hello");
        due("the search goes past it", log.recordCount(), 3);
        thrown("the input buffer is empty", ARGUMENT, () -> log.truncateInput(1));
        int length = log.read(1);
        due("ben reads", output(log, length), "hem");
    }

    private static String letters(FramedLog log, int from, int to) {
        StringBuilder s = new StringBuilder();
        for (int offset = from; offset < to; offset++) s.append((char) log.logByte(offset));
        return s.toString();
    }

    private static void loadText(FramedLog log) {
        about = "README: load";
        String text = "block 16;record hem;reader ada;read ada 1;";
        for (int from = 0; from < text.length(); from += 20) {
            int[] words = new int[5];
            for (int i = 0; i < 20; i++) {
                int letter = from + i < text.length() ? text.charAt(from + i) : ' ';  // spaces only separate tokens
                words[i / 4] = words[i / 4] << 8 | letter;
            }
            log.appendInput(words[0], words[1], words[2], words[3], words[4]);
        }
        due("load", log.load() + " " + counts(log, 0), "6 6 1 0 0 0");
    }

    private static void damageAndBack(FramedLog log) {
        about = "README: damage and repair";
        String before = all(log);
        due("damage", log.damage(3, 1), (int) 'i');
        due("recordCount", log.recordCount(), 0);
        log.repair(0);
        due("the record", record(log, 0), "iem");
        log.undo();
        log.undo();
        due("undo", all(log), before);
    }
}
