/**
 * An archive for small files that is kept in volumes, with parity, so that it can be read though
 * volumes are lost or spoilt.
 */
public final class OssuaryVault {

    private static final int MOST_TIMES = 200;
    private static final int MOST_POWER = 1000;
    private static final int MOST_DATA = 10;
    private static final int MOST_PARITY = 6;
    private static final int MOST_FILES = 16;
    private static final int MOST_FOUND = 40;
    private static final int PLACES = 16;
    private static final int CONTENT_ROOM = 240;
    private static final int FILE_HEAD = 8;
    private static final int INDEX_ENTRY = 6;
    private static final int STREAM_TAIL = 6;
    private static final int VOLUME_HEAD = 10;
    private static final int FILE_MARK = 69;
    private static final int TAIL_MARK = 88;
    private static final int VOLUME_MARK = 86;
    private static final int DIGEST_START = 2473;

    /** A packed form is taken only if it is shorter, so full contents make the longest stream. */
    private static final int DESK_STREAM_ROOM =
            MOST_FILES * (FILE_HEAD + CONTENT_ROOM + INDEX_ENTRY) + STREAM_TAIL;
    private static final int VOLUME_ROOM = VOLUME_HEAD + DESK_STREAM_ROOM;
    /** A changed head can call the longest volume one of ten, and ten copies of it be opened. */
    private static final int OPENED_ROOM = MOST_DATA * DESK_STREAM_ROOM;

    private final Field field;
    private final Desk desk;
    private final Shelf shelf;
    private final Recovery recovery;
    private final Reading reading;

    public OssuaryVault() {
        Check check = new Check();
        field = new Field();
        desk = new Desk(check);
        shelf = new Shelf(check, field);
        recovery = new Recovery(field);
        reading = new Reading(check);
    }

    // ---- the field

    public int product(int a, int b) throws IllegalArgumentException {
        if (!isByte(a) || !isByte(b)) {
            throw new IllegalArgumentException("a factor is not a byte");
        }
        return field.times(a, b);
    }

    public int inverse(int a) throws IllegalArgumentException {
        if (!isByte(a) || a == 0) {
            throw new IllegalArgumentException("there is no inverse of it");
        }
        return field.oneOver(a);
    }

    public int power(int a, int n) throws IllegalArgumentException {
        if (!isByte(a) || n < 0 || n > MOST_POWER) {
            throw new IllegalArgumentException("no such power");
        }
        return field.raised(a, n);
    }

    public int coefficient(int j, int d) throws IndexOutOfBoundsException {
        if (j < 0 || j >= MOST_PARITY || d < 0 || d >= MOST_DATA) {
            throw new IndexOutOfBoundsException("no such volume");
        }
        return field.parityWeight(j, d);
    }

    // ---- the desk

    public int write(int value, int times) throws IllegalArgumentException, IllegalStateException {
        if (!isByte(value) || times < 1 || times > MOST_TIMES) {
            throw new IllegalArgumentException("no byte, or not so often");
        }
        if (desk.sheet.size() + times > CONTENT_ROOM) {
            throw new IllegalStateException("the sheet has no room for them");
        }
        desk.sheet.addTimes(value, times);
        return desk.sheet.size();
    }

    public int noise(int seed, int many) throws IllegalArgumentException, IllegalStateException {
        if (!isWord(seed) || many < 1 || many > CONTENT_ROOM) {
            throw new IllegalArgumentException("no such seed, or not so many");
        }
        if (desk.sheet.size() + many > CONTENT_ROOM) {
            throw new IllegalStateException("the sheet has no room for them");
        }
        int r = seed;
        for (int i = 0; i < many; i++) {
            r = (r * 75 + 74) % 65537;
            desk.sheet.add(r % 256);
        }
        return desk.sheet.size();
    }

    public int cutSheet(int many) throws IllegalArgumentException {
        int before = desk.sheet.size();
        if (many < 0 || many > before) {
            throw new IllegalArgumentException("the sheet has not so many bytes");
        }
        desk.sheet.shorten(many);
        return before;
    }

    public int store(int key) throws IllegalArgumentException, IllegalStateException {
        if (!isWord(key)) {
            throw new IllegalArgumentException("no such key");
        }
        if (!desk.hasRoomFor(key)) {
            throw new IllegalStateException("the desk is full");
        }
        desk.put(key, desk.sheet);
        desk.sheet.clear();
        return desk.count();
    }

    public int remove(int key) {
        return desk.takeOff(key);
    }

    public int files() {
        return desk.count();
    }

    public int keyOf(int file) throws IndexOutOfBoundsException {
        return deskFile(file).key;
    }

    public int lengthOf(int file) throws IndexOutOfBoundsException {
        return deskFile(file).content.size();
    }

    public int contentAt(int file, int place) throws IndexOutOfBoundsException {
        return byteIn(deskFile(file).content, place);
    }

    public int checkOf(int file) throws IndexOutOfBoundsException {
        return deskFile(file).contentCheck;
    }

    public int packedLength(int file) throws IndexOutOfBoundsException {
        return deskFile(file).packed.size();
    }

    public int packedAt(int file, int place) throws IndexOutOfBoundsException {
        return byteIn(deskFile(file).packed, place);
    }

    public int streamLength() {
        return desk.streamSize();
    }

    // ---- volumes

    public int build(int data, int parity) throws IllegalArgumentException {
        if (data < 1 || data > MOST_DATA || parity < 0 || parity > MOST_PARITY) {
            throw new IllegalArgumentException("not so many volumes");
        }
        reading.close();
        Bytes stream = desk.writtenStream();
        shelf.fillWith(stream, data, parity);
        return bodySize(stream.size(), data);
    }

    public int sizeOf(int volume) throws IndexOutOfBoundsException {
        return placeOnShelf(volume).size();
    }

    public int byteAt(int volume, int place) throws IndexOutOfBoundsException {
        return byteIn(volumeOnShelf(volume).bytes, place);
    }

    public int spoil(int volume, int place, int by)
            throws IndexOutOfBoundsException, IllegalArgumentException {
        Volume one = volumeOnShelf(volume);
        if (place < 0 || place >= one.size()) {
            throw new IndexOutOfBoundsException("no such place in the volume");
        }
        if (!isByte(by)) {
            throw new IllegalArgumentException("what is added is no byte");
        }
        return one.mix(place, by);
    }

    public int sign(int volume) throws IndexOutOfBoundsException, IllegalStateException {
        Volume one = volumeOnShelf(volume);
        if (one.size() < VOLUME_HEAD) {
            throw new IllegalStateException("the volume is too short for a check");
        }
        return one.seal();
    }

    public int cut(int volume, int many)
            throws IndexOutOfBoundsException, IllegalArgumentException {
        Volume one = volumeOnShelf(volume);
        int before = one.size();
        if (many < 0 || many > before) {
            throw new IllegalArgumentException("the volume has not so many bytes");
        }
        one.shorten(many);
        return before;
    }

    public boolean lose(int volume) throws IndexOutOfBoundsException {
        Volume one = placeOnShelf(volume);
        boolean was = one.isHere();
        one.vanish();
        return was;
    }

    public int exchange(int volume, int other) throws IndexOutOfBoundsException {
        Volume one = placeOnShelf(volume);
        Volume another = placeOnShelf(other);
        shelf.swap(volume, other);
        return (one.isHere() ? 1 : 0) + (another.isHere() ? 1 : 0);
    }

    public int copy(int volume, int other) throws IndexOutOfBoundsException {
        Volume one = volumeOnShelf(volume);
        placeOnShelf(other).become(one);
        return one.size();
    }

    public boolean isSound(int volume) throws IndexOutOfBoundsException {
        return placeOnShelf(volume).isWhole();
    }

    public int leader() {
        shelf.survey();
        return shelf.leaderPlace;
    }

    public int present() {
        shelf.survey();
        return shelf.members;
    }

    public int numberOf(int volume) throws IndexOutOfBoundsException {
        placeOnShelf(volume);
        shelf.survey();
        return shelf.memberNumber(volume);
    }

    public int spare() {
        shelf.survey();
        return shelf.surplus();
    }

    public int repair() throws IllegalStateException {
        requireOpen();
        return shelf.fillWith(reading.stream, reading.data, reading.parity);
    }

    // ---- reading

    public int open() {
        reading.close();
        shelf.survey();
        Volume first = shelf.at(shelf.leaderPlace);
        if (first == null || shelf.surplus() < 0) {
            return -1;
        }
        int workedOut = recovery.recover(shelf, first, reading.stream);
        reading.begin(first.dataTold(), first.parityTold());
        reading.judgeFiles();
        return workedOut;
    }

    public int opened() throws IllegalStateException {
        requireOpen();
        return reading.stream.size();
    }

    public int streamAt(int place) throws IllegalStateException, IndexOutOfBoundsException {
        requireOpen();
        return byteIn(reading.stream, place);
    }

    public boolean hasIndex() throws IllegalStateException {
        requireOpen();
        return reading.indexed;
    }

    public int found() throws IllegalStateException {
        requireOpen();
        return reading.count;
    }

    public int keyFound(int file) throws IllegalStateException, IndexOutOfBoundsException {
        return readFile(file).key;
    }

    public int placeFound(int file) throws IllegalStateException, IndexOutOfBoundsException {
        return readFile(file).place;
    }

    public boolean isGood(int file) throws IllegalStateException, IndexOutOfBoundsException {
        return readFile(file).good;
    }

    public int lengthFound(int file) throws IllegalStateException, IndexOutOfBoundsException {
        return readFile(file).size();
    }

    public int byteFound(int file, int place)
            throws IllegalStateException, IndexOutOfBoundsException {
        FoundFile one = readFile(file);
        if (!one.good) {
            throw new IndexOutOfBoundsException("the file is not good");
        }
        return byteIn(one.content, place);
    }

    public int restore() throws IllegalStateException {
        requireOpen();
        int restored = 0;
        for (int i = 0; i < reading.count; i++) {
            FoundFile one = reading.at(i);
            if (one != null && one.good && desk.hasRoomFor(one.key)) {
                desk.put(one.key, one.content);
                restored++;
            }
        }
        return restored;
    }

    public double cost() {
        int contents = desk.contentBytes();
        return contents > 0 ? (double) shelf.allBytes() / (double) contents : 0.0;
    }

    public long digest() {
        shelf.survey();
        return withReading(withShelf(withDesk(DIGEST_START)));
    }

    private long withDesk(long before) {
        long d = then(then(before, desk.count()), desk.streamSize());
        for (int i = 0; i < desk.count(); i++) {
            DeskFile one = desk.at(i);
            if (one != null) {
                d = then(then(d, one.key), one.content.size());
                d = then(then(d, one.contentCheck), one.packed.size());
            }
        }
        return d;
    }

    private long withShelf(long before) {
        long d = before;
        for (int i = 0; i < PLACES; i++) {
            Volume one = shelf.at(i);
            if (one != null) {
                d = then(then(d, one.size()), one.isWhole() ? 1 : 0);
                d = then(d, shelf.memberNumber(i));
                for (int place = 0; place < one.bytes.size(); place++) {
                    d = then(d, one.bytes.at(place));
                }
            }
        }
        return then(then(then(d, shelf.leaderPlace), shelf.members), shelf.surplus());
    }

    private long withReading(long before) {
        if (!reading.isOpen) {
            return then(before, 0);
        }
        long d = then(then(before, 1), reading.stream.size());
        d = then(then(d, reading.indexed ? 1 : 0), reading.count);
        for (int i = 0; i < reading.count; i++) {
            FoundFile one = reading.at(i);
            if (one != null) {
                d = then(then(d, one.key), one.place);
                d = then(then(d, one.good ? 1 : 0), one.size());
            }
        }
        return d;
    }

    private static long then(long d, long v) {
        return d * 31 + v;
    }

    private DeskFile deskFile(int file) throws IndexOutOfBoundsException {
        DeskFile one = desk.at(file);
        if (one == null) {
            throw new IndexOutOfBoundsException("no such file on the desk");
        }
        return one;
    }

    private Volume placeOnShelf(int volume) throws IndexOutOfBoundsException {
        Volume one = shelf.at(volume);
        if (one == null) {
            throw new IndexOutOfBoundsException("no such place on the shelf");
        }
        return one;
    }

    private Volume volumeOnShelf(int volume) throws IndexOutOfBoundsException {
        Volume one = placeOnShelf(volume);
        if (!one.isHere()) {
            throw new IndexOutOfBoundsException("no volume at this place");
        }
        return one;
    }

    private void requireOpen() throws IllegalStateException {
        if (!reading.isOpen) {
            throw new IllegalStateException("no archive is open");
        }
    }

    private FoundFile readFile(int file) throws IllegalStateException, IndexOutOfBoundsException {
        requireOpen();
        FoundFile one = reading.at(file);
        if (one == null) {
            throw new IndexOutOfBoundsException("no such file in the archive");
        }
        return one;
    }

    private static int byteIn(Bytes row, int place) throws IndexOutOfBoundsException {
        if (place < 0 || place >= row.size()) {
            throw new IndexOutOfBoundsException("no such place");
        }
        return row.at(place);
    }

    private static boolean isByte(int value) {
        return value >= 0 && value <= 255;
    }

    private static boolean isWord(int value) {
        return value >= 0 && value <= 65535;
    }

    private static int bodySize(int streamBytes, int data) {
        return data > 0 ? (streamBytes + data - 1) / data : 0;
    }

    /** A row of bytes with a fixed room; every index is tested here, so that no caller can err. */
    private static final class Bytes {
        private final int[] cells;
        private int size;

        Bytes(int room) {
            cells = new int[room > 0 ? room : 0];
        }

        int size() {
            return size;
        }

        /** 0 behind the end, so that a stream reads as if its padding stood there. */
        int at(int place) {
            return place >= 0 && place < size && place < cells.length ? cells[place] : 0;
        }

        int word(int place) {
            return at(place) * 256 + at(place + 1);
        }

        void put(int place, int value) {
            if (place >= 0 && place < size && place < cells.length) {
                cells[place] = value;
            }
        }

        void putWord(int place, int value) {
            put(place, value / 256);
            put(place + 1, value % 256);
        }

        void add(int value) {
            if (size >= 0 && size < cells.length) {
                cells[size] = value;
                size++;
            }
        }

        void addWord(int value) {
            add(value / 256);
            add(value % 256);
        }

        void addTimes(int value, int times) {
            for (int i = 0; i < times; i++) {
                add(value);
            }
        }

        void addPart(Bytes other, int from, int many) {
            for (int i = 0; i < many; i++) {
                add(other.at(from + i));
            }
        }

        void clear() {
            size = 0;
        }

        void shorten(int many) {
            if (many >= 0 && many < size) {
                size = many;
            }
        }

        void fillFrom(Bytes other) {
            if (other != this) {
                clear();
                addPart(other, 0, other.size());
            }
        }

        boolean sameAs(Bytes other) {
            if (size != other.size()) {
                return false;
            }
            for (int i = 0; i < size; i++) {
                if (at(i) != other.at(i)) {
                    return false;
                }
            }
            return true;
        }
    }

    /** The check of bytes; the eight steps that a byte asks for are taken once, in a table. */
    private static final class Check {
        private static final int START = 65535;

        private final int[] steps = new int[256];

        Check() {
            for (int i = 0; i < steps.length; i++) {
                steps[i] = eightSteps(i * 256);
            }
        }

        private static int eightSteps(int start) {
            int c = start;
            for (int i = 0; i < 8; i++) {
                c = c * 2 < 65536 ? c * 2 : (c * 2 - 65536) ^ 4129;
            }
            return c;
        }

        int after(int start, Bytes row, int from, int end) {
            int c = start;
            for (int i = from; i < end; i++) {
                c = (c * 256 & 65535) ^ steps[(c / 256 ^ row.at(i)) & 255];
            }
            return c;
        }

        int over(Bytes row, int from, int end) {
            return after(START, row, from, end);
        }
    }

    /** The field of 256 elements, by the powers of 2, which runs through all of them but 0. */
    private static final class Field {
        private static final int ORDER = 255;
        private static final int MODULUS = 285;

        /** Twice the order, so that two logarithms can be added without a remainder. */
        private final int[] powers = new int[2 * ORDER];
        private final int[] logs = new int[ORDER + 1];

        Field() {
            int element = 1;
            for (int i = 0; i < powers.length; i++) {
                powers[i] = element;
                logs[element & 255] = i % ORDER;
                element = element * 2 < 256 ? element * 2 : element * 2 ^ MODULUS;
            }
        }

        int times(int a, int b) {
            if (a == 0 || b == 0) {
                return 0;
            }
            return twoRaised(logs[a & 255] + logs[b & 255]);
        }

        private int twoRaised(int log) {
            return log >= 0 && log < powers.length ? powers[log] : 0;
        }

        int oneOver(int a) {
            return a == 0 ? 0 : twoRaised(ORDER - logs[a & 255]);
        }

        int raised(int a, int n) {
            if (n <= 0) {
                return 1;
            }
            return a == 0 ? 0 : twoRaised(logs[a & 255] * n % ORDER);
        }

        int parityWeight(int j, int d) {
            return oneOver((128 + j) ^ d);
        }

        /** Adds the products of a factor with some bytes to as many bytes of a row. */
        void addProducts(Bytes row, int place, int factor, Bytes other, int from, int many) {
            if (factor == 0) {
                return;
            }
            for (int i = 0; i < many; i++) {
                int sum = row.at(place + i) ^ times(factor, other.at(from + i));
                row.put(place + i, sum);
            }
        }

        /** With which factor a data volume goes into the body of the volume with this number. */
        int weight(int number, int d, int data) {
            if (number < data) {
                return number == d ? 1 : 0;
            }
            return parityWeight(number - data, d);
        }
    }

    /** The packed form: runs of a byte, and stretches without runs, told piece by piece. */
    private static final class Packing {
        private static final int MOST_ALIKE = 129;
        private static final int MOST_APART = 128;
        private static final int RUN_BASE = 126;
        private static final int FIRST_RUN_HEAD = 128;

        static void pack(Bytes content, Bytes packed) {
            packed.clear();
            int place = 0;
            for (int piece = 0; piece < content.size() && place < content.size(); piece++) {
                if (isRun(content, place)) {
                    int many = alikeFrom(content, place);
                    packed.add(RUN_BASE + many);
                    packed.add(content.at(place));
                    place += many;
                } else {
                    int many = apartFrom(content, place);
                    packed.add(many - 1);
                    packed.addPart(content, place, many);
                    place += many;
                }
            }
        }

        private static boolean isRun(Bytes content, int place) {
            return place + 2 < content.size()
                    && content.at(place) == content.at(place + 1)
                    && content.at(place) == content.at(place + 2);
        }

        private static int alikeFrom(Bytes content, int place) {
            int end = Math.min(content.size(), place + MOST_ALIKE);
            int next = place + 1;
            while (next < end && content.at(next) == content.at(place)) {
                next++;
            }
            return next - place;
        }

        private static int apartFrom(Bytes content, int place) {
            int end = Math.min(content.size(), place + MOST_APART);
            int next = place + 1;
            while (next < end && !isRun(content, next)) {
                next++;
            }
            return next - place;
        }

        /** Whether the bytes can be unpacked: no piece is cut off, and the content has room. */
        static boolean unpack(Bytes from, int start, int end, Bytes content) {
            content.clear();
            int place = start;
            for (int piece = start; piece < end && place < end; piece++) {
                int head = from.at(place);
                boolean run = head >= FIRST_RUN_HEAD;
                int many = run ? head - RUN_BASE : head + 1;
                int behind = place + 1 + (run ? 1 : many);
                if (behind > end || content.size() + many > CONTENT_ROOM) {
                    return false;
                }
                if (run) {
                    content.addTimes(from.at(place + 1), many);
                } else {
                    content.addPart(from, place + 1, many);
                }
                place = behind;
            }
            return true;
        }
    }

    private static final class DeskFile {
        /** Two stretches without a run cost a byte each; more stand behind runs, that save it. */
        private static final int PACKED_ROOM = CONTENT_ROOM + 2;

        private final Bytes content = new Bytes(CONTENT_ROOM);
        private final Bytes packed = new Bytes(PACKED_ROOM);
        private int key;
        private int contentCheck;

        void fill(int newKey, Bytes bytes, Check check) {
            key = newKey;
            content.fillFrom(bytes);
            contentCheck = check.over(content, 0, content.size());
            Packing.pack(content, packed);
        }

        boolean goesPacked() {
            return packed.size() < content.size();
        }

        int streamSize() {
            return FILE_HEAD + (goesPacked() ? packed.size() : content.size());
        }

        void writeTo(Bytes stream) {
            Bytes body = goesPacked() ? packed : content;
            stream.add(FILE_MARK);
            stream.add(goesPacked() ? 1 : 0);
            stream.addWord(key);
            stream.addWord(body.size());
            stream.addWord(contentCheck);
            stream.addPart(body, 0, body.size());
        }
    }

    private static final class Desk {
        private final Check check;
        private final Bytes sheet = new Bytes(CONTENT_ROOM);
        private final Bytes stream = new Bytes(DESK_STREAM_ROOM);
        /** All are made once; those from the count on are blank and wait for their use. */
        private final DeskFile[] slots = new DeskFile[MOST_FILES];
        private int count;

        Desk(Check check) {
            this.check = check;
            for (int i = 0; i < slots.length; i++) {
                slots[i] = new DeskFile();
            }
        }

        int count() {
            return count;
        }

        DeskFile at(int file) {
            return file >= 0 && file < count && file < slots.length ? slots[file] : null;
        }

        boolean hasRoomFor(int key) {
            return count < slots.length || placeOf(key) >= 0;
        }

        private int placeOf(int key) {
            int place = placeFor(key);
            DeskFile one = at(place);
            return one != null && one.key == key ? place : -1;
        }

        private int placeFor(int key) {
            for (int i = 0; i < count; i++) {
                DeskFile one = at(i);
                if (one == null || one.key >= key) {
                    return i;
                }
            }
            return count;
        }

        void put(int key, Bytes content) {
            if (!hasRoomFor(key)) {
                return;
            }
            int place = placeFor(key);
            if (placeOf(key) < 0) {
                for (int i = count; i > place; i--) {
                    swap(i - 1, i);
                }
                count++;
            }
            DeskFile one = at(place);
            if (one != null) {
                one.fill(key, content, check);
            }
        }

        private void swap(int place, int other) {
            if (place >= 0 && place < slots.length && other >= 0 && other < slots.length) {
                DeskFile one = slots[place];
                slots[place] = slots[other];
                slots[other] = one;
            }
        }

        int takeOff(int key) {
            int place = placeOf(key);
            DeskFile gone = at(place);
            if (gone == null) {
                return -1;
            }
            count--;
            for (int i = place; i < count; i++) {
                swap(i, i + 1);
            }
            return gone.content.size();
        }

        int contentBytes() {
            int sum = 0;
            for (int i = 0; i < count; i++) {
                DeskFile one = at(i);
                sum += one == null ? 0 : one.content.size();
            }
            return sum;
        }

        int streamSize() {
            int sum = STREAM_TAIL;
            for (int i = 0; i < count; i++) {
                DeskFile one = at(i);
                sum += one == null ? 0 : one.streamSize() + INDEX_ENTRY;
            }
            return sum;
        }

        Bytes writtenStream() {
            stream.clear();
            for (int i = 0; i < count; i++) {
                DeskFile one = at(i);
                if (one != null) {
                    one.writeTo(stream);
                }
            }
            int indexPlace = stream.size();
            writeIndex();
            int indexCheck = check.over(stream, indexPlace, stream.size());
            stream.add(TAIL_MARK);
            stream.add(count);
            stream.addWord(indexPlace);
            stream.addWord(indexCheck);
            return stream;
        }

        private void writeIndex() {
            int place = 0;
            for (int i = 0; i < count; i++) {
                DeskFile one = at(i);
                if (one != null) {
                    stream.addWord(one.key);
                    stream.addWord(place);
                    stream.addWord(one.content.size());
                    place += one.streamSize();
                }
            }
        }
    }

    /** What is at a place of the shelf: a volume, or none. */
    private static final class Volume {
        private static final int NUMBER_AT = 1;
        private static final int DATA_AT = 2;
        private static final int PARITY_AT = 3;
        private static final int BODY_AT = 4;
        private static final int STREAM_AT = 6;
        private static final int CHECK_AT = 8;
        private static final int UNJUDGED = 0;
        private static final int WHOLE = 1;
        private static final int BROKEN = 2;

        private final Check check;
        private final Bytes bytes = new Bytes(VOLUME_ROOM);
        private boolean here;
        /** Kept till a byte changes: judging reads the whole volume, and most calls ask for it. */
        private int verdict;

        Volume(Check check) {
            this.check = check;
        }

        boolean isHere() {
            return here;
        }

        int size() {
            return here ? bytes.size() : -1;
        }

        int number() {
            return bytes.at(NUMBER_AT);
        }

        int dataTold() {
            return bytes.at(DATA_AT);
        }

        int parityTold() {
            return bytes.at(PARITY_AT);
        }

        int bodyTold() {
            return bytes.word(BODY_AT);
        }

        int streamTold() {
            return bytes.word(STREAM_AT);
        }

        void vanish() {
            here = false;
            bytes.clear();
            verdict = UNJUDGED;
        }

        void become(Volume other) {
            here = other.here;
            bytes.fillFrom(other.bytes);
            verdict = other.verdict;
        }

        boolean sameAs(Volume other) {
            return here == other.here && bytes.sameAs(other.bytes);
        }

        void begin(int number, int data, int parity, int streamBytes) {
            int body = bodySize(streamBytes, data);
            here = true;
            verdict = UNJUDGED;
            bytes.clear();
            bytes.add(VOLUME_MARK);
            bytes.add(number);
            bytes.add(data);
            bytes.add(parity);
            bytes.addWord(body);
            bytes.addWord(streamBytes);
            bytes.addWord(0);
            bytes.addTimes(0, body);
        }

        int mix(int place, int by) {
            verdict = UNJUDGED;
            bytes.put(place, bytes.at(place) ^ by);
            return bytes.at(place);
        }

        void shorten(int many) {
            verdict = UNJUDGED;
            bytes.shorten(many);
        }

        int seal() {
            int right = rightCheck();
            verdict = UNJUDGED;
            bytes.putWord(CHECK_AT, right);
            return right;
        }

        private int rightCheck() {
            int ofHead = check.after(Check.START, bytes, 0, CHECK_AT);
            return check.after(ofHead, bytes, VOLUME_HEAD, bytes.size());
        }

        boolean isWhole() {
            if (verdict == UNJUDGED) {
                verdict = headFits() && bytes.word(CHECK_AT) == rightCheck() ? WHOLE : BROKEN;
            }
            return verdict == WHOLE;
        }

        private boolean headFits() {
            return here && bytes.size() >= VOLUME_HEAD && bytes.at(0) == VOLUME_MARK
                    && dataTold() >= 1 && dataTold() <= MOST_DATA
                    && parityTold() <= MOST_PARITY
                    && number() < dataTold() + parityTold()
                    && bytes.size() == VOLUME_HEAD + bodyTold()
                    && bodyTold() == bodySize(streamTold(), dataTold());
        }

        boolean isOfOneWith(Volume other) {
            return dataTold() == other.dataTold() && parityTold() == other.parityTold()
                    && bodyTold() == other.bodyTold() && streamTold() == other.streamTold();
        }
    }

    /** The 16 places, and which of them are of the archive, as the last survey saw it. */
    private static final class Shelf {
        private final Field field;
        private final Volume[] places = new Volume[PLACES];
        /** By places: the number of a volume of the archive, or -1. */
        private final int[] numbers = new int[PLACES];
        /** By numbers: the place of a volume of the archive, or -1. */
        private final int[] holders = new int[PLACES];
        private Volume blank;
        private int leaderPlace;
        private int members;

        Shelf(Check check, Field field) {
            this.field = field;
            for (int i = 0; i < places.length; i++) {
                places[i] = new Volume(check);
            }
            blank = new Volume(check);
        }

        Volume at(int place) {
            return place >= 0 && place < places.length ? places[place] : null;
        }

        void swap(int place, int other) {
            Volume one = at(place);
            Volume another = at(other);
            if (one != null && another != null) {
                places[place] = another;
                places[other] = one;
            }
        }

        void survey() {
            leaderPlace = -1;
            members = 0;
            for (int i = 0; i < PLACES; i++) {
                numbers[i] = -1;
                holders[i] = -1;
            }
            for (int i = 0; i < PLACES; i++) {
                if (places[i].isWhole()) {
                    seeWhole(i);
                }
            }
        }

        private void seeWhole(int place) {
            if (leaderPlace < 0) {
                leaderPlace = place;
            }
            Volume first = at(leaderPlace);
            Volume one = at(place);
            if (first == null || one == null || !one.isOfOneWith(first)) {
                return;
            }
            int number = one.number();
            if (place < numbers.length && number < holders.length && holders[number] < 0) {
                holders[number] = place;
                numbers[place] = number;
                members++;
            }
        }

        int memberNumber(int place) {
            return place >= 0 && place < numbers.length ? numbers[place] : -1;
        }

        Volume memberWith(int number) {
            return number >= 0 && number < holders.length ? at(holders[number]) : null;
        }

        /** How many members could be missed; -1 if there are too few. */
        int surplus() {
            Volume first = at(leaderPlace);
            return first == null ? -1 : Math.max(-1, members - first.dataTold());
        }

        int allBytes() {
            int sum = 0;
            for (int i = 0; i < places.length; i++) {
                sum += Math.max(0, places[i].size());
            }
            return sum;
        }

        /** Returns how many places are other than before. */
        int fillWith(Bytes stream, int data, int parity) {
            int changed = 0;
            for (int i = 0; i < places.length; i++) {
                if (i < data + parity) {
                    form(blank, i, data, parity, stream);
                } else {
                    blank.vanish();
                }
                Volume old = places[i];
                changed += old.sameAs(blank) ? 0 : 1;
                places[i] = blank;
                blank = old;
            }
            return changed;
        }

        private void form(Volume volume, int number, int data, int parity, Bytes stream) {
            volume.begin(number, data, parity, stream.size());
            int body = bodySize(stream.size(), data);
            for (int d = 0; d < data; d++) {
                int weight = field.weight(number, d, data);
                field.addProducts(volume.bytes, VOLUME_HEAD, weight, stream, d * body, body);
            }
            volume.seal();
        }
    }

    /** Works out data volumes that are missing, by the inverse of how the chosen ones were made. */
    private static final class Recovery {
        private static final int WIDTH = 2 * MOST_DATA;

        private final Field field;
        /** Rows of two halves: the weights of the chosen volumes, and their inverse to be. */
        private final Bytes matrix = new Bytes(MOST_DATA * WIDTH);
        /** By data volumes: itself, or the number of the parity volume that stands in for it. */
        private final int[] chosen = new int[MOST_DATA];

        Recovery(Field field) {
            this.field = field;
        }

        /** Returns how many data volumes were worked out. */
        int recover(Shelf shelf, Volume leader, Bytes stream) {
            int data = Math.min(leader.dataTold(), MOST_DATA);
            int body = leader.bodyTold();
            int missing = choose(shelf, data);
            if (missing > 0) {
                writeWeights(data);
                invert(data);
            }
            stream.clear();
            for (int d = 0; d < data; d++) {
                Volume one = shelf.memberWith(d);
                if (one != null) {
                    stream.addPart(one.bytes, VOLUME_HEAD, body);
                } else {
                    workOut(shelf, d, data, body, stream);
                }
            }
            stream.shorten(leader.streamTold());
            return missing;
        }

        private int choose(Shelf shelf, int data) {
            int missing = 0;
            int parity = data;
            for (int d = 0; d < data && d < chosen.length; d++) {
                chosen[d] = d;
                if (shelf.memberWith(d) == null) {
                    while (parity < PLACES && shelf.memberWith(parity) == null) {
                        parity++;
                    }
                    chosen[d] = parity;
                    parity++;
                    missing++;
                }
            }
            return missing;
        }

        private void writeWeights(int data) {
            matrix.clear();
            matrix.addTimes(0, MOST_DATA * WIDTH);
            for (int row = 0; row < data && row < chosen.length; row++) {
                for (int d = 0; d < data; d++) {
                    matrix.put(row * WIDTH + d, field.weight(chosen[row], d, data));
                }
                matrix.put(row * WIDTH + MOST_DATA + row, 1);
            }
        }

        /** No rows need be swapped: no square part of such weights has the determinant 0. */
        private void invert(int data) {
            for (int pivot = 0; pivot < data; pivot++) {
                int start = pivot * WIDTH;
                scaleRow(start, field.oneOver(matrix.at(start + pivot)));
                for (int row = 0; row < data; row++) {
                    if (row != pivot) {
                        int factor = matrix.at(row * WIDTH + pivot);
                        field.addProducts(matrix, row * WIDTH, factor, matrix, start, WIDTH);
                    }
                }
            }
        }

        private void scaleRow(int start, int factor) {
            for (int place = start; place < start + WIDTH; place++) {
                matrix.put(place, field.times(factor, matrix.at(place)));
            }
        }

        private void workOut(Shelf shelf, int d, int data, int body, Bytes stream) {
            int start = stream.size();
            stream.addTimes(0, body);
            for (int row = 0; row < data && row < chosen.length; row++) {
                Volume one = shelf.memberWith(chosen[row]);
                int weight = matrix.at(d * WIDTH + MOST_DATA + row);
                if (one != null) {
                    field.addProducts(stream, start, weight, one.bytes, VOLUME_HEAD, body);
                }
            }
        }
    }

    private static final class FoundFile {
        private final Bytes content = new Bytes(CONTENT_ROOM);
        private int key;
        private int place;
        /** By the index; -1 without one. */
        private int lengthTold;
        private boolean good;

        int size() {
            return good ? content.size() : -1;
        }
    }

    /** The archive as it was opened. */
    private static final class Reading {
        private final Check check;
        private final Bytes stream = new Bytes(OPENED_ROOM);
        private final FoundFile[] entries = new FoundFile[MOST_FOUND];
        private boolean isOpen;
        private int data;
        private int parity;
        private boolean indexed;
        private int count;

        Reading(Check check) {
            this.check = check;
            for (int i = 0; i < entries.length; i++) {
                entries[i] = new FoundFile();
            }
        }

        FoundFile at(int file) {
            return file >= 0 && file < count && file < entries.length ? entries[file] : null;
        }

        void close() {
            isOpen = false;
        }

        /** The stream stands already. */
        void begin(int dataVolumes, int parityVolumes) {
            isOpen = true;
            data = dataVolumes;
            parity = parityVolumes;
            indexed = indexStands();
            count = 0;
            if (indexed) {
                takeIndexed();
            } else {
                lookForFiles();
            }
        }

        void judgeFiles() {
            for (int i = 0; i < count; i++) {
                FoundFile one = at(i);
                if (one != null) {
                    one.good = readsWell(one);
                }
            }
        }

        private int tailPlace() {
            return stream.size() - STREAM_TAIL;
        }

        private boolean indexStands() {
            int tail = tailPlace();
            int place = stream.word(tail + 2);
            return tail >= 0 && stream.at(tail) == TAIL_MARK
                    && place + INDEX_ENTRY * stream.at(tail + 1) == tail
                    && check.over(stream, place, tail) == stream.word(tail + 4);
        }

        private void takeIndexed() {
            int tail = tailPlace();
            int index = stream.word(tail + 2);
            count = Math.min(stream.at(tail + 1), entries.length);
            for (int i = 0; i < count; i++) {
                int entry = index + i * INDEX_ENTRY;
                FoundFile one = at(i);
                if (one != null) {
                    one.key = stream.word(entry);
                    one.place = stream.word(entry + 2);
                    one.lengthTold = stream.word(entry + 4);
                }
            }
        }

        private void lookForFiles() {
            int place = 0;
            while (count < entries.length && liesAt(place)) {
                FoundFile one = entries[count];
                one.key = stream.word(place + 2);
                one.place = place;
                one.lengthTold = -1;
                place = endOfFile(place);
                count++;
            }
        }

        private int endOfFile(int place) {
            return place + FILE_HEAD + stream.word(place + 4);
        }

        private boolean liesAt(int place) {
            return place >= 0 && place + FILE_HEAD <= stream.size()
                    && stream.at(place) == FILE_MARK && stream.at(place + 1) <= 1
                    && endOfFile(place) <= stream.size();
        }

        private boolean readsWell(FoundFile one) {
            return liesAt(one.place) && stream.word(one.place + 2) == one.key
                    && takeContent(one)
                    && (one.lengthTold < 0 || one.content.size() == one.lengthTold)
                    && check.over(one.content, 0, one.content.size()) == stream.word(one.place + 6);
        }

        private boolean takeContent(FoundFile one) {
            int start = one.place + FILE_HEAD;
            int end = endOfFile(one.place);
            if (stream.at(one.place + 1) == 1) {
                return Packing.unpack(stream, start, end, one.content);
            }
            if (end - start > CONTENT_ROOM) {
                return false;
            }
            one.content.clear();
            one.content.addPart(stream, start, end - start);
            return true;
        }
    }
}
