import java.lang.reflect.InvocationTargetException;
import java.lang.reflect.Method;
import java.util.ArrayDeque;
import java.util.ArrayList;
import java.util.Arrays;
import java.util.Comparator;
import java.util.Deque;
import java.util.List;
import java.util.NoSuchElementException;
import java.util.Random;
import java.util.regex.Matcher;
import java.util.regex.Pattern;

/**
 * Runs long random sequences of calls on FramedLog and on a plain model of the document, and compares every answer
 * and every exception by its exact class, so that an exception that the machine throws is told from one of the
 * document's. The seeds are fixed: the same runs each time.
 */
public final class FramedLogAgainstModel {
    private static final int RUNS = 1500;
    private static final int CALLS = 512;
    private static int wrong = 0;

    public static void main(String[] args) throws Exception {
        List<Method> calls = new ArrayList<>(List.of(FramedLog.class.getDeclaredMethods()));
        calls.removeIf(m -> !java.lang.reflect.Modifier.isPublic(m.getModifiers()));
        calls.removeIf(m -> List.of("toString", "equals", "hashCode").contains(m.getName()));
        calls.sort(Comparator.comparing(Method::getName));
        if (calls.size() != 63) {
            System.out.println("the face has " + calls.size() + " methods, due are 63");
            wrong++;
        }
        for (int run = 0; run < RUNS && wrong == 0; run++) {
            new Run(run, calls).go();
        }
        System.out.println(wrong == 0 ? "all answers are as the model's" : wrong + " answers are not as the model's");
        if (wrong != 0) System.exit(1);
    }

    private static final class Run {
        final Random random;
        final List<Method> calls;
        final FramedLog log = new FramedLog();
        final Model model = new Model();
        final List<String> told = new ArrayList<>();
        final int seed;

        Run(int seed, List<Method> calls) {
            this.seed = seed;
            this.calls = calls;
            random = new Random(seed);
        }

        /** Each run has a mood, so that some keep a log of small blocks for long and some load again and again. */
        void go() throws Exception {
            int loads = random.nextInt(4) == 0 ? 8 : 1;
            int writes = random.nextInt(3) == 0 ? 18 : 6;
            int changes = random.nextInt(3) * 6;
            while (told.size() < CALLS && wrong == 0) {
                int kind = random.nextInt(100);
                if (kind < loads) {
                    text(randomText());
                    call("load");
                } else if (kind < 10 + writes) {
                    text(randomBytes(random.nextInt(12) == 0 ? random.nextInt(60) : 1 + random.nextInt(40)));
                    call("writeRecord");
                } else if (kind < 12 + writes) {
                    text(randomName());
                    call("addReader");
                } else if (kind < 15 + writes) {
                    call("damage", offset(), random.nextInt(8) == 0 ? wild() : 1 + random.nextInt(7));
                } else if (kind < 17 + writes) {
                    call("seek", random.nextInt(Math.max(1, model.readerCount())), random.nextInt(3));
                } else if (kind < 17 + writes + changes) {
                    changeHeader();
                } else if (kind < 56) {
                    call("read", random.nextInt(Math.max(1, model.readerCount())));
                } else {
                    Method m = calls.get(random.nextInt(calls.size()));
                    if (!rare(m.getName()) || random.nextInt(4) == 0) call(m.getName(), arguments(m));
                }
            }
        }

        /** These would empty the log too often. */
        boolean rare(String name) {
            return List.of("truncateLog", "dropBlocks", "compact", "load", "restore", "weakestOffset").contains(name);
        }

        /** Makes a fragment of another type or length, mostly with the right checksum. */
        void changeHeader() throws Exception {
            List<Integer> starts = model.fragments();
            if (starts.isEmpty()) return;
            int at = starts.get(random.nextInt(starts.size()));
            if (random.nextInt(3) > 0) {
                call("damage", at + 2, model.logByte(at + 2) ^ 1 + random.nextInt(4));
            } else {
                call("damage", at + 1, model.logByte(at + 1) ^ random.nextInt(model.logByte(at + 1) + 2));
            }
            if (random.nextInt(8) > 0) call("repair", at);
        }

        Object[] arguments(Method m) {
            Object[] given = new Object[m.getParameterCount()];
            for (int i = 0; i < given.length; i++) given[i] = argument(m.getName(), i);
            return given;
        }

        int argument(String name, int i) {
            if (random.nextInt(25) == 0) return wild();
            if (name.equals("appendInput")) return random.nextInt();
            if (name.equals("truncateInput")) return random.nextInt(model.input.length() + 2) - (random.nextInt(9) == 0 ? 1 : 0);
            if (name.equals("writeCost") || name.equals("fragmentsFor")) return random.nextInt(43);
            if (List.of("truncateLog", "recordsIfTruncated").contains(name)) {
                return Math.max(-1, model.logLength() + 1 - random.nextInt(name.equals("truncateLog") ? 60 : 402));
            }
            if (name.equals("seek") && i == 1 || List.of("dropBlocks", "bytesAfterFragments", "describeBlock").contains(name)) {
                return random.nextInt(model.blockCount() + 3) - 1;
            }
            if (List.of("save", "restore").contains(name)) return random.nextInt(4) - 1;
            if (name.startsWith("record") && !List.of("recordsRead", "recordsLeft", "recordsIfDamaged").contains(name) && i == 0) {
                return random.nextInt(model.recordCount() + 3) - 1;
            }
            if (name.equals("recordByte") || name.equals("outputByte")) return random.nextInt(30) - 1;
            if (name.equals("readerNameByte") && i == 1) return random.nextInt(6) - 1;
            if (name.equals("damage") && i == 1) return random.nextInt(258) - 1;
            if (name.toLowerCase().contains("fragment") || name.toLowerCase().contains("checksum") || name.equals("repair")
                    || List.of("logByte", "recordsIfDamaged", "damage").contains(name)) return offset();
            return random.nextInt(6) - 1;
        }

        int offset() {
            return random.nextInt(model.logLength() + 3) - 1;
        }

        int wild() {
            int[] odd = {Integer.MIN_VALUE, Integer.MAX_VALUE, -1, 0, 1, -2, 4, 400, 401, 256, 1 << 30, Integer.MAX_VALUE - 2};
            return random.nextInt(3) == 0 ? random.nextInt() : odd[random.nextInt(odd.length)];
        }

        void text(String text) throws Exception {
            call("truncateInput", 0);
            for (int at = 0; at < text.length(); at += 20) {
                Object[] words = new Object[5];
                for (int w = 0; w < 5; w++) {
                    int word = 0;
                    for (int b = 0; b < 4; b++) {
                        int i = at + 4 * w + b;
                        word = word << 8 | (i < text.length() ? text.charAt(i) : 0);
                    }
                    words[w] = word;
                }
                call("appendInput", words);
            }
            call("truncateInput", text.length());
        }

        String randomBytes(int count) {
            StringBuilder s = new StringBuilder();
            for (int i = 0; i < count; i++) s.append((char) random.nextInt(random.nextInt(3) == 0 ? 6 : 256));
            return s.toString();
        }

        String word(int most) {
            StringBuilder s = new StringBuilder();
            int count = 1 + random.nextInt(most);
            for (int i = 0; i < count; i++) s.append((char) ('a' + random.nextInt(26)));
            return s.toString();
        }

        String randomName() {
            String[] names = {"ada", "ben", "c", "dora", "e", "", "abcde", "a1", "Bob", "zz"};
            return names[random.nextInt(names.length)];
        }

        String blank() {
            return random.nextInt(8) == 0 ? (random.nextBoolean() ? " " : "\n") : "";
        }

        String randomText() {
            StringBuilder s = new StringBuilder();
            s.append(blank()).append("block ").append(8 + random.nextInt(25)).append(blank()).append(";");
            List<String> names = new ArrayList<>();
            int statements = random.nextInt(40);
            int length = 0;
            for (int i = 0; i < statements && s.length() < 500; i++) {
                s.append(blank());
                switch (random.nextInt(8)) {
                    case 0:
                        if (names.size() < 4 || random.nextInt(4) == 0) {
                            String name = random.nextInt(30) == 0 ? word(6) : word(3) + (char) ('a' + names.size());
                            if (!names.isEmpty() && random.nextInt(20) == 0) name = names.get(0);
                            s.append("reader ").append(name).append(";");
                            names.add(name);
                        }
                        break;
                    case 1:
                        if (!names.isEmpty()) {
                            s.append("read ").append(random.nextInt(40) == 0 ? "zzz" : names.get(random.nextInt(names.size())));
                            s.append(random.nextBoolean() ? " " : "").append(random.nextInt(random.nextInt(9) == 0 ? 23 : 5)).append(";");
                        }
                        break;
                    case 2:
                        if (length == 0) break;
                        s.append("damage ").append(random.nextInt(length + (random.nextInt(9) == 0 ? 60 : 0))).append(" ");
                        s.append(random.nextInt(20) == 0 ? random.nextInt(300) : 1 + random.nextInt(7)).append(";");
                        break;
                    case 3:
                        int cut = random.nextInt(length + 1);
                        s.append("cut ").append(cut).append(";");
                        length = cut;
                        break;
                    default: {
                        String record = word(random.nextInt(40) == 0 ? 44 : 38);
                        s.append("record ").append(record).append(";");
                        length += record.length() + 3;
                    }
                }
            }
            if (random.nextInt(6) == 0) {
                int at = random.nextInt(s.length());
                switch (random.nextInt(3)) {
                    case 0: s.setCharAt(at, (char) random.nextInt(256)); break;
                    case 1: s.deleteCharAt(at); break;
                    default: s.setLength(at);
                }
            }
            if (s.length() > 600) s.setLength(600);
            return s.toString();
        }

        void call(String name, Object... given) throws Exception {
            if (told.size() >= CALLS || wrong != 0) return;
            Method m = null;
            for (Method each : calls) if (each.getName().equals(name)) m = each;
            Object got = answer(m, log, given);
            Object want = answer(Model.class.getMethod(name, m.getParameterTypes()), model, given);
            told.add(name + Arrays.toString(given) + " -> " + want);
            if (!got.equals(want)) {
                wrong++;
                System.out.println("seed " + seed + ", call " + told.size() + ": " + name + Arrays.toString(given)
                        + " answered " + got + ", the model " + want);
                for (String line : told.subList(Math.max(0, told.size() - 60), told.size())) System.out.println("  " + line);
            }
        }

        static Object answer(Method m, Object on, Object[] given) throws Exception {
            try {
                return m.invoke(on, given);
            } catch (InvocationTargetException e) {
                return e.getCause().getClass();
            }
        }
    }

    /** The document, told as plainly as Java's library allows; lists are made anew instead of changed. */
    public static final class Model {
        static final Pattern TOKEN = Pattern.compile("[a-z]+|[0-9]+|[^ \n]", Pattern.DOTALL);

        static final class Who {
            final String name;
            int offset, records, damages, incompletes, orphans;

            Who(String name) { this.name = name; }

            Who copy() {
                Who c = new Who(name);
                c.offset = offset;
                c.records = records;
                c.damages = damages;
                c.incompletes = incompletes;
                c.orphans = orphans;
                return c;
            }
        }

        static final class All {
            int size;
            List<Integer> log = List.of();
            List<Who> readers = new ArrayList<>();
            int written;

            All copy() {
                All c = new All();
                c.size = size;
                c.log = log;
                for (Who w : readers) c.readers.add(w.copy());
                c.written = written;
                return c;
            }

            void cut(int length) {
                log = List.copyOf(log.subList(0, length));
                for (Who w : readers) if (w.offset > length) w.offset = length;
            }
        }

        static final class Hit {
            final List<Integer> bytes = new ArrayList<>();
            final List<Integer> starts = new ArrayList<>();
            final List<Integer> owned = new ArrayList<>();
            int after, damages, incompletes, orphans;

            void forget() {
                bytes.clear();
                starts.clear();
                owned.clear();
            }
        }

        static final class TextError extends Exception {
            final int code, position;

            TextError(int code, int position) {
                this.code = code;
                this.position = position;
            }
        }

        String input = "";
        List<Integer> output = List.of();
        int error = 0, errorAt = -1;
        All now;
        final Deque<All> past = new ArrayDeque<>();
        final All[] slots = new All[2];

        Model() {
            try {
                now = parse("block 16;record hem;record longthreadofwool;reader ada;reader ben;record knot;record abc;"
                        + "read ada 2;damage 42 3;");
            } catch (TextError e) {
                throw new AssertionError(e);
            }
        }

        // ---- section 1

        static int check(List<Integer> log, int at) {
            int sum = 7 * log.get(at + 2) + 3 * log.get(at + 1);
            for (int i = 0; i < log.get(at + 1); i++) sum += (i + 1) * log.get(at + 3 + i);
            return sum % 251;
        }

        static List<Integer> fragmentsOfBlock(List<Integer> log, int size, int block) {
            List<Integer> starts = new ArrayList<>();
            int at = block * size;
            int end = at + size;
            while (true) {
                if (end - at < 3) break;
                if (at + 3 > log.size()) break;
                if (log.get(at + 2) < 1 || log.get(at + 2) > 4) break;
                if (at + 3 + log.get(at + 1) > Math.min(end, log.size())) break;
                starts.add(at);
                at += 3 + log.get(at + 1);
            }
            return starts;
        }

        List<Integer> fragments() {
            List<Integer> starts = new ArrayList<>();
            for (int block = 0; block < blockCount(); block++) starts.addAll(fragmentsOfBlock(now.log, now.size, block));
            return starts;
        }

        // ---- section 2

        /** The log with the record behind it; the number of fragments is told by the count of headers. */
        static List<Integer> written(List<Integer> log, int size, List<Integer> bytes, int[] count) {
            List<Integer> to = new ArrayList<>(log);
            List<Integer> left = new ArrayList<>(bytes);
            boolean any = false;
            while (!left.isEmpty() || !any) {
                while (size - to.size() % size < 3) to.add(0);
                int fits = Math.min(left.size(), size - to.size() % size - 3);
                boolean last = fits == left.size();
                int at = to.size();
                to.add(0);
                to.add(fits);
                to.add(any ? (last ? 4 : 3) : (last ? 1 : 2));
                to.addAll(left.subList(0, fits));
                to.set(at, check(to, at));
                left = new ArrayList<>(left.subList(fits, left.size()));
                any = true;
                count[0]++;
            }
            return to;
        }

        // ---- section 3

        static Hit search(List<Integer> log, int size, int from) {
            Hit hit = new Hit();
            boolean begun = false;
            int at = from;
            while (true) {
                int end = at - at % size + size;
                if (end - at < 3) {
                    at = end;
                    end += size;
                }
                if (at + 3 > log.size()) return null;
                int length = log.get(at + 1), type = log.get(at + 2);
                boolean broken = type < 1 || type > 4 || at + 3 + length > end;
                if (!broken && at + 3 + length > log.size()) return null;
                if (broken || log.get(at) != check(log, at)) {
                    hit.damages++;
                    hit.forget();
                    begun = false;
                    at = end;
                    continue;
                }
                if ((type == 1 || type == 2) && begun) {
                    hit.incompletes++;
                    hit.forget();
                } else if ((type == 3 || type == 4) && !begun) {
                    hit.orphans++;
                    at += 3 + length;
                    continue;
                }
                hit.starts.add(at);
                for (int i = 0; i < 3 + length; i++) hit.owned.add(at + i);
                hit.bytes.addAll(log.subList(at + 3, at + 3 + length));
                at += 3 + length;
                begun = true;
                if (type == 1 || type == 4) {
                    hit.after = at;
                    return hit;
                }
            }
        }

        static List<Hit> records(List<Integer> log, int size, int from) {
            List<Hit> hits = new ArrayList<>();
            int at = from;
            for (Hit hit = search(log, size, at); hit != null; hit = search(log, size, at)) {
                hits.add(hit);
                at = hit.after;
            }
            return hits;
        }

        List<Hit> records() {
            return records(now.log, now.size, 0);
        }

        // ---- section 4

        static All parse(String text) throws TextError {
            List<String> words = new ArrayList<>();
            List<Integer> places = new ArrayList<>();
            Matcher m = TOKEN.matcher(text);
            while (m.find()) {
                words.add(m.group());
                places.add(m.start());
            }
            words.add("");
            places.add(text.length());
            All all = new All();
            int i = 0;
            want(words.get(i).equals("block"), 1, places.get(i));
            i++;
            all.size = number(words.get(i), 8, 32, places.get(i));
            i++;
            want(words.get(i).equals(";"), 1, places.get(i));
            i++;
            while (i < words.size() - 1) {
                String verb = words.get(i);
                int place = places.get(i);
                want(List.of("record", "reader", "read", "cut", "damage").contains(verb), 1, place);
                want(!verb.equals("reader") || all.readers.size() < 4, 5, place);
                i++;
                String first = words.get(i);
                place = places.get(i);
                int value = 0, second = 0;
                if (verb.startsWith("re")) want(first.matches("[a-z]+"), 1, place);
                Who who = null;
                for (Who w : all.readers) if (w.name.equals(first)) who = w;
                if (verb.equals("record")) want(first.length() <= 40, 2, place);
                if (verb.equals("reader")) {
                    want(first.length() <= 4, 2, place);
                    want(who == null, 3, place);
                }
                if (verb.equals("read")) {
                    want(who != null, 4, place);
                    i++;
                    second = number(words.get(i), 0, 20, places.get(i));
                }
                if (verb.equals("cut")) value = number(first, 0, all.log.size(), place);
                if (verb.equals("damage")) {
                    value = number(first, 0, all.log.size() - 1, place);
                    i++;
                    second = number(words.get(i), 1, 255, places.get(i));
                }
                i++;
                want(words.get(i).equals(";"), 1, places.get(i));
                List<Integer> bytes = new ArrayList<>();
                for (char c : first.toCharArray()) bytes.add((int) c);
                switch (verb) {
                    case "record":
                        List<Integer> longer = written(all.log, all.size, bytes, new int[1]);
                        want(longer.size() <= 400, 5, places.get(i));
                        all.log = longer;
                        all.written++;
                        break;
                    case "reader":
                        all.readers.add(new Who(first));
                        break;
                    case "read":
                        for (int k = 0; k < second; k++) {
                            Hit hit = search(all.log, all.size, who.offset);
                            if (hit == null) break;
                            add(who, hit);
                        }
                        break;
                    case "cut":
                        all.cut(value);
                        break;
                    default:
                        List<Integer> changed = new ArrayList<>(all.log);
                        changed.set(value, changed.get(value) ^ second);
                        all.log = changed;
                }
                i++;
            }
            return all;
        }

        static void want(boolean right, int code, int place) throws TextError {
            if (!right) throw new TextError(code, place);
        }

        static int number(String word, int low, int high, int place) throws TextError {
            want(word.matches("[0-9]+"), 1, place);
            java.math.BigInteger n = new java.math.BigInteger(word);
            want(n.compareTo(java.math.BigInteger.valueOf(low)) >= 0 && n.compareTo(java.math.BigInteger.valueOf(high)) <= 0, 2, place);
            return n.intValue();
        }

        static void add(Who who, Hit hit) {
            who.offset = hit.after;
            who.records++;
            who.damages += hit.damages;
            who.incompletes += hit.incompletes;
            who.orphans += hit.orphans;
        }

        // ---- section 5

        void remember() {
            past.addLast(now.copy());
            if (past.size() > 8) past.removeFirst();
        }

        static void index(boolean right) {
            if (!right) throw new IndexOutOfBoundsException();
        }

        static void argument(boolean right) {
            if (!right) throw new IllegalArgumentException();
        }

        static void state(boolean right) {
            if (!right) throw new IllegalStateException();
        }

        static void element(boolean right) {
            if (!right) throw new NoSuchElementException();
        }

        Who who(int reader) {
            index(reader >= 0 && reader < now.readers.size());
            return now.readers.get(reader);
        }

        Hit record(int record) {
            List<Hit> hits = records();
            index(record >= 0 && record < hits.size());
            return hits.get(record);
        }

        Hit next(int reader) {
            return search(now.log, now.size, who(reader).offset);
        }

        int fragment(int offset) {
            argument(fragments().contains(offset));
            return offset;
        }

        // ---- the face

        public int appendInput(int a, int b, int c, int d, int e) {
            state(input.length() <= 580);
            StringBuilder s = new StringBuilder(input);
            for (int word : new int[] {a, b, c, d, e}) {
                for (byte each : java.nio.ByteBuffer.allocate(4).putInt(word).array()) s.append((char) Byte.toUnsignedInt(each));
            }
            input = s.toString();
            return input.length();
        }

        public int truncateInput(int length) {
            argument(length >= 0 && length <= input.length());
            input = input.substring(0, length);
            return length;
        }

        public int load() {
            String text = input;
            input = "";
            error = 0;
            errorAt = -1;
            try {
                All next = parse(text);
                remember();
                now = next;
            } catch (TextError e) {
                error = e.code;
                errorAt = e.position;
                throw new IllegalArgumentException();
            }
            return now.log.size();
        }

        public int errorCode() { return error; }

        public int errorPosition() { return errorAt; }

        public int blockSize() { return now.size; }

        public int logLength() { return now.log.size(); }

        public int blockCount() { return (int) Math.ceil(now.log.size() / (double) now.size); }

        public int logByte(int offset) {
            index(offset >= 0 && offset < now.log.size());
            return now.log.get(offset);
        }

        public int writtenRecords() { return now.written; }

        public int readerCount() { return now.readers.size(); }

        public int readerNameByte(int reader, int position) {
            String name = who(reader).name;
            element(position >= 0 && position < name.length());
            return name.charAt(position);
        }

        public int readerOffset(int reader) { return who(reader).offset; }

        public int recordsRead(int reader) { return who(reader).records; }

        public int damageProblems(int reader) { return who(reader).damages; }

        public int incompleteProblems(int reader) { return who(reader).incompletes; }

        public int orphanProblems(int reader) { return who(reader).orphans; }

        public boolean isFragmentStart(int offset) {
            index(offset >= 0 && offset < now.log.size());
            return fragments().contains(offset);
        }

        public int fragmentType(int offset) { return now.log.get(fragment(offset) + 2); }

        public int fragmentLength(int offset) { return now.log.get(fragment(offset) + 1); }

        public int expectedChecksum(int offset) { return check(now.log, fragment(offset)); }

        public boolean isChecksumRight(int offset) { return check(now.log, fragment(offset)) == now.log.get(offset); }

        public int fragmentCount() { return fragments().size(); }

        public int wrongChecksums() {
            return (int) fragments().stream().filter(at -> check(now.log, at) != now.log.get(at)).count();
        }

        public int firstWrongChecksum() {
            return fragments().stream().filter(at -> check(now.log, at) != now.log.get(at)).findFirst().orElse(-1);
        }

        public int bytesAfterFragments(int block) {
            index(block >= 0 && block < blockCount());
            int after = Math.min((block + 1) * now.size, now.log.size()) - block * now.size;
            for (int at : fragmentsOfBlock(now.log, now.size, block)) after -= 3 + now.log.get(at + 1);
            return after;
        }

        public int recordCount() { return records().size(); }

        public int recordStart(int record) { return record(record).starts.get(0); }

        public int recordLength(int record) { return record(record).bytes.size(); }

        public int recordByte(int record, int position) {
            List<Integer> bytes = record(record).bytes;
            element(position >= 0 && position < bytes.size());
            return bytes.get(position);
        }

        public int recordFragments(int record) { return record(record).starts.size(); }

        public int longestRecord() {
            List<Integer> lengths = new ArrayList<>();
            for (Hit hit : records()) lengths.add(hit.bytes.size());
            return lengths.isEmpty() ? -1 : lengths.indexOf(java.util.Collections.max(lengths));
        }

        /** r for readable, p for padding, u for unreadable: a letter for each byte of the log. */
        String kinds() {
            StringBuilder s = new StringBuilder();
            for (int i = 0; i < now.log.size(); i++) s.append(now.size - i % now.size < 3 ? 'p' : 'u');
            for (Hit hit : records()) for (int at : hit.owned) s.setCharAt(at, 'r');
            return s.toString();
        }

        int kind(char letter) { return (int) kinds().chars().filter(c -> c == letter).count(); }

        public int readableBytes() { return kind('r'); }

        public int paddingBytes() { return kind('p'); }

        public int unreadableBytes() { return kind('u'); }

        int payload() { return records().stream().mapToInt(hit -> hit.bytes.size()).sum(); }

        public float sharePayload() { return now.log.isEmpty() ? 0.0f : (float) payload() / (float) now.log.size(); }

        public double meanRecordLength() { return records().isEmpty() ? 0.0 : (double) payload() / (double) records().size(); }

        public int recordsLeft(int reader) { return records(now.log, now.size, who(reader).offset).size(); }

        public int nextRecordLength(int reader) {
            Hit hit = next(reader);
            return hit == null ? -1 : hit.bytes.size();
        }

        public int nextRecordStart(int reader) {
            Hit hit = next(reader);
            return hit == null ? -1 : hit.starts.get(0);
        }

        public int offsetAfterNext(int reader) {
            Hit hit = next(reader);
            return hit == null ? -1 : hit.after;
        }

        public int problemsBeforeNext(int reader) {
            Hit hit = next(reader);
            return hit == null ? -1 : hit.damages + hit.incompletes + hit.orphans;
        }

        public int slowestReader() {
            int slowest = -1;
            for (int i = now.readers.size() - 1; i >= 0; i--) {
                if (slowest < 0 || now.readers.get(i).offset <= now.readers.get(slowest).offset) slowest = i;
            }
            return slowest;
        }

        List<Integer> zeros(int length) {
            argument(length >= 1 && length <= 40);
            return java.util.Collections.nCopies(length, 0);
        }

        public int writeCost(int length) {
            return written(now.log, now.size, zeros(length), new int[1]).size() - now.log.size();
        }

        public int fragmentsFor(int length) {
            int[] count = new int[1];
            written(now.log, now.size, zeros(length), count);
            return count[0];
        }

        public int recordsIfDamaged(int offset) {
            index(offset >= 0 && offset < now.log.size());
            List<Integer> changed = new ArrayList<>(now.log);
            changed.set(offset, changed.get(offset) ^ 255);
            return records(changed, now.size, 0).size();
        }

        public int weakestOffset() {
            int weakest = -1, fewest = Integer.MAX_VALUE;
            for (int i = 0; i < now.log.size(); i++) {
                int records = recordsIfDamaged(i);
                if (records < fewest) {
                    fewest = records;
                    weakest = i;
                }
            }
            return weakest;
        }

        public int recordsIfTruncated(int length) {
            argument(length >= 0 && length <= now.log.size());
            return records(now.log.subList(0, length), now.size, 0).size();
        }

        public int writeRecord() {
            argument(input.length() >= 1 && input.length() <= 40);
            List<Integer> bytes = new ArrayList<>();
            for (char c : input.toCharArray()) bytes.add((int) c);
            int[] count = new int[1];
            List<Integer> longer = written(now.log, now.size, bytes, count);
            state(longer.size() <= 400);
            remember();
            now.log = longer;
            now.written++;
            input = "";
            return count[0];
        }

        public int addReader() {
            argument(input.matches("[a-z]{1,4}"));
            state(now.readers.size() < 4);
            for (Who w : now.readers) state(!w.name.equals(input));
            remember();
            now.readers.add(new Who(input));
            input = "";
            return now.readers.size() - 1;
        }

        public int read(int reader) {
            Hit hit = next(reader);
            element(hit != null);
            remember();
            add(who(reader), hit);
            output = hit.bytes;
            return output.size();
        }

        public int seek(int reader, int block) {
            who(reader);
            argument(block >= 0 && block <= blockCount());
            remember();
            who(reader).offset = block == blockCount() ? now.log.size() : block * now.size;
            return who(reader).offset;
        }

        public int truncateLog(int length) {
            argument(length >= 0 && length <= now.log.size());
            remember();
            int before = now.log.size();
            now.cut(length);
            return before - length;
        }

        public int damage(int offset, int mask) {
            logByte(offset);
            argument(mask >= 1 && mask <= 255);
            remember();
            List<Integer> changed = new ArrayList<>(now.log);
            changed.set(offset, changed.get(offset) ^ mask);
            now.log = changed;
            return changed.get(offset);
        }

        public int repair(int offset) {
            fragment(offset);
            remember();
            List<Integer> changed = new ArrayList<>(now.log);
            int before = changed.set(offset, check(now.log, offset));
            now.log = changed;
            return before;
        }

        public int dropBlocks(int blocks) {
            argument(blocks >= 1 && blocks <= now.log.size() / now.size);
            remember();
            int removed = blocks * now.size;
            now.log = List.copyOf(now.log.subList(removed, now.log.size()));
            for (Who w : now.readers) w.offset = w.offset < removed ? 0 : w.offset - removed;
            return now.log.size();
        }

        public int compact() {
            List<Hit> old = records();
            List<Integer> fresh = new ArrayList<>();
            for (Hit hit : old) fresh = written(fresh, now.size, hit.bytes, new int[1]);
            state(fresh.size() <= 400);
            remember();
            int shorter = now.log.size() - fresh.size();
            List<Hit> anew = records(fresh, now.size, 0);
            for (Who w : now.readers) {
                int to = fresh.size();
                for (int i = old.size() - 1; i >= 0; i--) if (old.get(i).starts.get(0) >= w.offset) to = anew.get(i).starts.get(0);
                w.offset = to;
            }
            now.log = fresh;
            return shorter;
        }

        public int describeBlock(int block) {
            int after = bytesAfterFragments(block);
            List<String> parts = new ArrayList<>();
            for (int at : fragmentsOfBlock(now.log, now.size, block)) {
                parts.add("?FIML".charAt(now.log.get(at + 2)) + "" + now.log.get(at + 1) + (isChecksumRight(at) ? "" : "!"));
            }
            if (after > 0) parts.add("+" + after);
            output = new ArrayList<>();
            for (char c : String.join(" ", parts).toCharArray()) output.add((int) c);
            return output.size();
        }

        public int outputByte(int position) {
            element(position >= 0 && position < output.size());
            return output.get(position);
        }

        public int save(int slot) {
            index(slot >= 0 && slot < 2);
            slots[slot] = now.copy();
            return now.log.size();
        }

        public int restore(int slot) {
            index(slot >= 0 && slot < 2);
            state(slots[slot] != null);
            remember();
            now = slots[slot].copy();
            return now.log.size();
        }

        public int undo() {
            state(!past.isEmpty());
            now = past.removeLast();
            return past.size();
        }

        public int undoDepth() { return past.size(); }
    }
}
