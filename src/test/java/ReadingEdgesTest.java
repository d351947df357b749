/** The edges that the page on opening names, and those of promises 34 to 46. */
final class ReadingEdgesTest {
    private static final int MIN = Integer.MIN_VALUE;
    private static final int MAX = Integer.MAX_VALUE;
    private static final int[] NINE = {9, 8, 7};
    private static final int[] FIVES = {5, 5, 5, 5};
    private static final String CLOSED = "Throws `IllegalStateException` if no archive is open";
    private static final String NO_FILE =
            "Throws `IndexOutOfBoundsException` if there is no such file";

    public static void main(String[] args) throws Exception {
        Sentences.read();
        opening();
        index();
        looking();
        good();
        lasting();
        closed();
        asking();
        restoring();
        Sentences.end("ReadingEdgesTest", 34, 46);
    }

    private static void opening() {
        Sentences.ask(0, "if fewer than D places are of the archive, it fails.",
                ReadingEdgesTest::fewerThanData);
        Sentences.ask(0, "the data volumes that are there, and the first of the parity volumes "
                + "that are there, by numbers, as many as are needed.",
                ReadingEdgesTest::firstParityVolumes);
        Sentences.ask(0, "as many bytes of it as the leader tells.",
                ReadingEdgesTest::asLeaderTells);
    }

    private static void index() {
        Sentences.ask(0, "if it has 6 bytes or more", ReadingEdgesTest::sixBytes);
        Sentences.ask(0, "of its last six bytes the first is 88", ReadingEdgesTest::firstOfSix);
        Sentences.ask(0, "the place of the index is such that three words for each file (as many "
                + "as are told) just reach up to these six", ReadingEdgesTest::justReachUp);
        Sentences.ask(0, "and the check of the index is right, there is an index",
                ReadingEdgesTest::checkOfIndex);
        Sentences.ask(0, "its files are told by it, in its order.", ReadingEdgesTest::orderOfIndex);
        Sentences.ask(0, "In both ways 40 files are told at most, the first ones.",
                ReadingEdgesTest::fortyAtMost);
    }

    private static void looking() {
        Sentences.ask(0, "from the place 0 on, as long as there is a 69",
                ReadingEdgesTest::asLongAs69);
        Sentences.ask(0, "and all of a file, as told in 3, lies in the stream",
                ReadingEdgesTest::allOfAFile);
        Sentences.ask(0, "(its flag 0 or 1, whichever)", ReadingEdgesTest::flags);
        Sentences.ask(0, "and the next one is looked for right behind it.",
                ReadingEdgesTest::rightBehind);
    }

    private static void good() {
        Sentences.ask(0, "A file is good, if at its place all of a file lies in the stream, as "
                + "told above", ReadingEdgesTest::goodPlace);
        Sentences.ask(0, "its key is that of the index (if there is one)",
                ReadingEdgesTest::goodKey);
        Sentences.ask(0, "its bytes can be unpacked to a content (with 1: no piece is cut off at "
                + "the end)", ReadingEdgesTest::goodPieces);
        Sentences.ask(0, "one that begins with 0 to 127 has so many bytes and 1 more, one that "
                + "begins with 128 to 255 is the next byte so many times less 126 (two at 128).",
                ReadingEdgesTest::everyPiece);
        Sentences.ask(0, "of at most 240 bytes, that has the length",
                ReadingEdgesTest::goodRoom);
        Sentences.ask(0, "that has the length told by the index (if there is one)",
                ReadingEdgesTest::goodLength);
        Sentences.ask(0, "and the check is right. ```", ReadingEdgesTest::goodCheck);
    }

    private static void lasting() {
        Sentences.ask(0, "The archive is open from then on, as it was opened",
                ReadingEdgesTest::asItWasOpened);
        Sentences.ask(0, "till it is opened anew (also if that fails: then it is not open) or "
                + "built.", ReadingEdgesTest::openedAnew);
    }

    private static void closed() {
        Sentences.ask(35, CLOSED, () -> closed("opened()", x -> x.opened()));
        Sentences.ask(36, CLOSED, () -> {
            closed("streamAt(0)", x -> x.streamAt(0));
            closed("streamAt(-1): the first named", x -> x.streamAt(-1));
        });
        Sentences.ask(37, CLOSED, () -> closed("hasIndex()", x -> x.hasIndex()));
        Sentences.ask(38, CLOSED, () -> closed("found()", x -> x.found()));
        Sentences.ask(39, CLOSED, () -> {
            closed("keyFound(0)", x -> x.keyFound(0));
            closed("keyFound(-1): the first named", x -> x.keyFound(-1));
        });
        Sentences.ask(40, CLOSED, () -> {
            closed("placeFound(0)", x -> x.placeFound(0));
            closed("placeFound(40): the first named", x -> x.placeFound(40));
        });
        Sentences.ask(41, CLOSED, () -> {
            closed("isGood(0)", x -> x.isGood(0));
            closed("isGood(-1): the first named", x -> x.isGood(-1));
        });
        Sentences.ask(42, CLOSED, () -> {
            closed("lengthFound(0)", x -> x.lengthFound(0));
            closed("lengthFound(MAX): the first named", x -> x.lengthFound(MAX));
        });
        Sentences.ask(43, CLOSED, () -> {
            closed("byteFound(0, 0)", x -> x.byteFound(0, 0));
            closed("byteFound(-1, 0): the first named", x -> x.byteFound(-1, 0));
            closed("byteFound(0, -1): the first named", x -> x.byteFound(0, -1));
        });
        Sentences.ask(44, CLOSED, () -> closed("restore()", x -> x.restore()));
    }

    private static void asking() {
        Sentences.ask(34, "Returns how many data volumes were worked out; -1 if it fails.",
                ReadingEdgesTest::noneToSix);
        Sentences.ask(35, "Returns how many bytes its stream has.", ReadingEdgesTest::noneToMost);
        Sentences.ask(36, "Throws `IndexOutOfBoundsException` if there is no such place",
                ReadingEdgesTest::streamAtNone);
        Sentences.ask(37, "Returns whether there is an index.", ReadingEdgesTest::indexOfNone);
        Sentences.ask(38, "Returns how many files it has, good or not.",
                ReadingEdgesTest::goodOrNot);
        Sentences.ask(39, "Returns the key of the index, or, without one, that at its place.",
                ReadingEdgesTest::keyOfIndex);
        Sentences.ask(39, NO_FILE, () -> noFile("keyFound", OssuaryVault::keyFound));
        Sentences.ask(40, "as told by the index, or where it was found.",
                ReadingEdgesTest::placeOfIndex);
        Sentences.ask(40, NO_FILE, () -> noFile("placeFound", OssuaryVault::placeFound));
        Sentences.ask(41, NO_FILE, () -> noFile("isGood", (x, file) -> x.isGood(file) ? 1 : 0));
        Sentences.ask(42, "Returns the length of its content; -1 if it is not good.",
                ReadingEdgesTest::lengthOfBad);
        Sentences.ask(42, NO_FILE, () -> noFile("lengthFound", OssuaryVault::lengthFound));
        Sentences.ask(43, NO_FILE + ", it is not good, or there is no such place in it",
                ReadingEdgesTest::byteOfNone);
    }

    private static void restoring() {
        Sentences.ask(44, "each in place of one with its key", ReadingEdgesTest::restoreInPlace);
        Sentences.ask(44, "those for which there is no room (16 others) are left out.",
                ReadingEdgesTest::restoreNoRoom);
        Sentences.ask(44, "Returns how many were put there (a key that comes twice counts twice).",
                ReadingEdgesTest::restoreTwice);
        Sentences.ask(45, "0 if these have none.", ReadingEdgesTest::costOfNone);
        Sentences.ask(45, "for each byte of the contents of the desk, not cut",
                ReadingEdgesTest::costNotCut);
        Sentences.ask(46, "which wraps around as a 64-bit integer", ReadingEdgesTest::digestWraps);
        Sentences.ask(46, "1 if an archive is open, 0 if not", ReadingEdgesTest::digestOpenOrNot);
        Sentences.ask(46, "and for each file keyFound(), placeFound(), isGood() (1 or 0), "
                + "lengthFound().", ReadingEdgesTest::digestOfMost);
    }

    private interface Asked {
        Object of(OssuaryVault x);
    }

    private interface AskedFile {
        int of(OssuaryVault x, int file);
    }

    private static int[] nine(int key) {
        return Rows.file(0, key, Rows.check(NINE), NINE);
    }

    private static int[] fives(int key) {
        return Rows.file(1, key, Rows.check(FIVES), 130, 5);
    }

    private static OssuaryVault forged(int... stream) {
        OssuaryVault x = Rows.forged(stream);
        Due.is("open() of a stream of " + stream.length, 0, () -> x.open());
        return x;
    }

    /** Three files; the second one is packed, and the last one is empty. */
    private static OssuaryVault three() {
        OssuaryVault x = new OssuaryVault();
        Rows.storeFile(x, 1, NINE);
        Rows.storeFile(x, 2, FIVES);
        x.store(3);
        return x;
    }

    private static OssuaryVault threeOpen() {
        OssuaryVault x = three();
        x.build(3, 3);
        Due.is("open() of three files", 0, () -> x.open());
        return x;
    }

    private static int[] streamOfThree() {
        int[] files = Rows.join(nine(1), fives(2), Rows.file(0, 3, 65535));
        return Rows.withIndex(files, Rows.index(1, 0, 3, 2, 11, 4, 3, 21, 0));
    }

    private static void dueFile(String what, OssuaryVault x, int file, int... content) {
        Due.is(what + ": isGood(" + file + ")", true, () -> x.isGood(file));
        Due.is(what + ": lengthFound(" + file + ")", content.length, () -> x.lengthFound(file));
        Due.is(what + ": its content", Rows.text(content),
                () -> Rows.text(Rows.contentFound(x, file)));
    }

    private static void dueBad(String what, OssuaryVault x, int file) {
        Due.is(what + ": isGood(" + file + ")", false, () -> x.isGood(file));
        Due.is(what + ": lengthFound(" + file + ")", -1, () -> x.lengthFound(file));
    }

    /** In each way in which an archive can be not open. */
    private static void closed(String call, Asked asked) {
        OssuaryVault none = new OssuaryVault();
        Due.state(call + " of a new object", () -> asked.of(none));
        OssuaryVault x = three();
        x.build(3, 3);
        Due.state(call + ", built and not opened", () -> asked.of(x));
        x.open();
        x.build(3, 3);
        Due.state(call + ", built anew", () -> asked.of(x));
        x.open();
        for (int i = 0; i < 4; i++) {
            x.lose(i);
        }
        Due.is("open() of two volumes of three and three", -1, () -> x.open());
        Due.state(call + ", opening failed", () -> asked.of(x));
    }

    // ---- opening

    private static void fewerThanData() {
        for (int data = 1; data <= 10; data++) {
            OssuaryVault x = three();
            x.build(data, 6);
            for (int i = 0; i < 6; i++) {
                x.lose(i);
            }
            int missing = Math.min(data, 6);
            Due.is("open() with just D = " + data + " left", missing, () -> x.open());
            Due.is("its stream", Rows.text(streamOfThree()), () -> Rows.text(Rows.stream(x)));
            x.lose(data + 5);
            Due.is("open() with one fewer than D = " + data, -1, () -> x.open());
        }
        OssuaryVault same = three();
        same.build(2, 0);
        same.copy(0, 1);
        Due.is("open() of two volumes with one number, D = 2", -1, () -> same.open());
    }

    /** A later parity volume is changed, and told only if no earlier one is there. */
    private static void firstParityVolumes() {
        OssuaryVault x = threeOpen();
        x.spoil(5, 12, 1);
        x.sign(5);
        x.exchange(5, 1);
        x.lose(5);
        x.lose(0);
        Due.is("open() with 0 and 1 lost", 2, () -> x.open());
        Due.is("its stream", Rows.text(streamOfThree()), () -> Rows.text(Rows.stream(x)));
        x.lose(3);
        Due.is("open() by the changed one", 2, () -> x.open());
        Due.is("another stream", false,
                () -> Rows.text(streamOfThree()).equals(Rows.text(Rows.stream(x))));
        OssuaryVault y = threeOpen();
        y.spoil(3, 12, 1);
        y.sign(3);
        Due.is("open() with no parity volume needed", 0, () -> y.open());
        Due.is("its stream", Rows.text(streamOfThree()), () -> Rows.text(Rows.stream(y)));
    }

    private static void asLeaderTells() {
        OssuaryVault x = new OssuaryVault();
        x.build(10, 0);
        Due.is("open() of six bytes in ten volumes", 0, () -> x.open());
        Due.is("opened()", 6, () -> x.opened());
        for (int bytes = 1; bytes <= 10; bytes++) {
            for (int i = 0; i < 10; i++) {
                Rows.force(x, i, 7, bytes);
            }
            int told = bytes;
            Due.is("open() of " + told, 0, () -> x.open());
            Due.is("opened() of " + told, told, () -> x.opened());
            Due.index("streamAt(" + told + ")", () -> x.streamAt(told));
        }
    }

    // ---- index

    private static void sixBytes() {
        OssuaryVault six = forged(88, 0, 0, 0, 255, 255);
        Due.is("hasIndex() of six", true, () -> six.hasIndex());
        Due.is("found() of six", 0, () -> six.found());
        for (int bytes = 0; bytes < 6; bytes++) {
            OssuaryVault x = forged(Rows.part(Rows.row(88, 0, 0, 0, 255), 0, bytes));
            Due.is("hasIndex() of " + bytes, false, () -> x.hasIndex());
            OssuaryVault y = forged(Rows.part(Rows.row(88, 0, 0, 0, 255, 255), 6 - bytes, 6));
            Due.is("hasIndex() of the last " + bytes + " of six", false, () -> y.hasIndex());
        }
        OssuaryVault seven = forged(1, 88, 0, 0, 1, 255, 255);
        Due.is("hasIndex() of seven", true, () -> seven.hasIndex());
    }

    private static void firstOfSix() {
        for (int first : new int[] {0, 69, 86, 87, 89, 255}) {
            OssuaryVault x = forged(first, 0, 0, 0, 255, 255);
            Due.is("hasIndex() with " + first, false, () -> x.hasIndex());
        }
        OssuaryVault x = forged(Rows.join(nine(1), Rows.row(88, 0, 0, 11, 255, 255, 88)));
        Due.is("hasIndex() with a byte behind the six", false, () -> x.hasIndex());
        Due.is("found() then", 1, () -> x.found());
    }

    /** Each of these tails has the right check of the bytes from the place to the six. */
    private static void justReachUp() {
        int[] files = nine(1);
        int[] words = Rows.index(1, 0, 3, 1, 0, 3);
        int[] all = Rows.join(files, words);
        for (int place = 9; place <= 25; place++) {
            for (int count = 0; count <= 4; count++) {
                int[] index = place <= 23 ? Rows.part(all, place, 23) : new int[0];
                OssuaryVault x = forged(Rows.join(all, Rows.tail(count, place, index)));
                boolean want = place + count * 6 == 23;
                Due.is("hasIndex(), " + count + " from " + place + " up to 23", want,
                        () -> x.hasIndex());
                Due.is("found(), " + count + " from " + place, want ? count : 1, () -> x.found());
            }
        }
        int[] many = new int[0];
        for (int i = 0; i < 255; i++) {
            many = Rows.join(many, Rows.index(i == 0 ? 1 : 2, 0, 3));
        }
        OssuaryVault x = forged(Rows.withIndex(files, many));
        Due.is("hasIndex() of 255, the most that can be told", true, () -> x.hasIndex());
        Due.is("found() of 255", 40, () -> x.found());
        dueFile("of 255", x, 0, NINE);
        OssuaryVault far = forged(Rows.withIndex(new int[256], Rows.index(7, 0, 1)));
        Due.is("hasIndex() with the place 256", true, () -> far.hasIndex());
        OssuaryVault back = forged(Rows.join(new int[2], Rows.tail(0, 65535)));
        Due.is("hasIndex() with the place 65535", false, () -> back.hasIndex());
        OssuaryVault over = forged(Rows.join(new int[2], Rows.tail(1, 65532)));
        Due.is("hasIndex() with a place that a word's end brings round", false,
                () -> over.hasIndex());
    }

    private static void checkOfIndex() {
        int[] stream = Rows.withIndex(nine(1), Rows.index(1, 0, 3));
        OssuaryVault right = forged(stream);
        Due.is("hasIndex()", true, () -> right.hasIndex());
        for (int i = 11; i < stream.length; i++) {
            int[] other = stream.clone();
            other[i] ^= 128;
            int place = i;
            OssuaryVault x = forged(other);
            Due.is("hasIndex() with another byte at " + place, false, () -> x.hasIndex());
        }
        int[] ahead = stream.clone();
        ahead[10] ^= 128;
        OssuaryVault y = forged(ahead);
        Due.is("hasIndex() with another byte ahead of the index", true, () -> y.hasIndex());
    }

    private static void orderOfIndex() {
        int[] files = Rows.join(nine(1), fives(2));
        OssuaryVault x = forged(Rows.withIndex(files, Rows.index(2, 11, 4, 1, 0, 3, 2, 11, 4)));
        Due.is("found()", 3, () -> x.found());
        dueFile("the later one first", x, 0, FIVES);
        dueFile("the first one behind it", x, 1, NINE);
        dueFile("and the later one again", x, 2, FIVES);
        OssuaryVault none = forged(Rows.join(files, Rows.tail(0, 21)));
        Due.is("hasIndex() of none, with files ahead", true, () -> none.hasIndex());
        Due.is("found() by an index of none", 0, () -> none.found());
    }

    private static void fortyAtMost() {
        for (int many : new int[] {39, 40, 41, 80}) {
            int[] files = new int[0];
            int[] index = new int[0];
            for (int i = 0; i < many; i++) {
                files = Rows.join(files, nine(i));
                index = Rows.join(index, Rows.index(i, i * 11, 3));
            }
            OssuaryVault looked = forged(files);
            Due.is("hasIndex() without one", false, () -> looked.hasIndex());
            dueForty("looked for, " + many, many, looked);
            OssuaryVault told = forged(Rows.withIndex(files, index));
            Due.is("hasIndex() with one", true, () -> told.hasIndex());
            dueForty("by an index, " + many, many, told);
        }
    }

    private static void dueForty(String what, int many, OssuaryVault x) {
        int want = Math.min(40, many);
        Due.is("found() " + what, want, () -> x.found());
        Due.is("keyFound() of the last " + what, want - 1, () -> x.keyFound(want - 1));
        Due.is("placeFound() of the last " + what, (want - 1) * 11, () -> x.placeFound(want - 1));
        dueFile(what, x, want - 1, NINE);
        Due.index("keyFound() of one more " + what, () -> x.keyFound(want));
    }

    // ---- looking

    private static void dueFound(String what, int want, int... stream) {
        OssuaryVault x = forged(stream);
        Due.is("hasIndex() of " + what, false, () -> x.hasIndex());
        Due.is("found() of " + what, want, () -> x.found());
    }

    private static void asLongAs69() {
        dueFound("nothing", 0);
        dueFound("a file", 1, nine(1));
        dueFound("a byte ahead of a file", 0, Rows.join(Rows.row(0), nine(1)));
        for (int wrong : new int[] {0, 68, 70, 86, 88, 255}) {
            int[] other = nine(2);
            other[0] = wrong;
            dueFound(wrong + " for the second 69", 1, Rows.join(nine(1), other, nine(3)));
            dueFound(wrong + " for the first 69", 0, Rows.join(other, nine(1)));
        }
    }

    private static void allOfAFile() {
        int[] empty = Rows.file(0, 5, 65535);
        dueFound("an empty file, which is its head alone", 1, empty);
        for (int bytes = 1; bytes < 8; bytes++) {
            dueFound("a head of " + bytes, 0, Rows.part(empty, 0, bytes));
            dueFound("a file and a head of " + bytes, 1,
                    Rows.join(nine(1), Rows.part(empty, 0, bytes)));
        }
        for (int bytes = 8; bytes < 11; bytes++) {
            dueFound("a file cut to " + bytes, 0, Rows.part(nine(1), 0, bytes));
        }
        int[] longer = nine(1);
        longer[5] = 4;
        dueFound("a file a byte too long", 0, longer);
        dueFound("a file as long with that byte", 1, Rows.join(longer, Rows.row(0)));
        dueFound("a length of 256 for 255 bytes", 0,
                Rows.join(Rows.row(69, 0, 0, 1, 1, 0, 0, 0), new int[255]));
        dueFound("a length of 256 for 256 bytes", 1,
                Rows.join(Rows.row(69, 0, 0, 1, 1, 0, 0, 0), new int[256]));
        dueFound("a length of 65535", 0, Rows.row(69, 0, 0, 1, 255, 255, 255, 255));
    }

    private static void flags() {
        for (int flag : new int[] {0, 1, 2, 3, 128, 255}) {
            int[] file = nine(2);
            file[1] = flag;
            int want = flag <= 1 ? 3 : 1;
            dueFound("a flag " + flag, want, Rows.join(nine(1), file, nine(3)));
        }
    }

    private static void rightBehind() {
        dueFound("two files", 2, Rows.join(nine(1), fives(2)));
        dueFound("a byte between two files", 1, Rows.join(nine(1), Rows.row(69), fives(2)));
        int[] bad = nine(2);
        bad[10] ^= 1;
        OssuaryVault x = forged(Rows.join(nine(1), bad, Rows.file(0, 4, 65535), fives(3)));
        Due.is("found() past one that is not good, and an empty one", 4, () -> x.found());
        Due.is("placeFound(3)", 30, () -> x.placeFound(3));
        int[] within = Rows.join(Rows.row(69, 0), nine(7));
        OssuaryVault y = forged(Rows.join(Rows.file(0, 1, Rows.check(within), within), nine(2)));
        Due.is("found(), not within a file", 2, () -> y.found());
        Due.is("keyFound(1)", 2, () -> y.keyFound(1));
    }

    // ---- good

    private static OssuaryVault byIndex(int[] files, int... words) {
        OssuaryVault x = forged(Rows.withIndex(files, Rows.index(words)));
        Due.is("hasIndex()", true, () -> x.hasIndex());
        return x;
    }

    private static void goodPlace() {
        OssuaryVault x = byIndex(Rows.join(nine(1), nine(1)), 1, 0, 3, 1, 11, 3, 1, 10, 3, 1, 12, 3,
                1, 22, 3, 1, 65535, 3, 1, 51, 3, 1, 52, 3);
        dueFile("the place of the first", x, 0, NINE);
        dueFile("the place of the second", x, 1, NINE);
        for (int file = 2; file < 8; file++) {
            dueBad("a place that has no 69", x, file);
        }
        for (int flag : new int[] {0, 1, 2, 255}) {
            int[] file = Rows.file(flag, 1, 65535);
            OssuaryVault y = byIndex(file, 1, 0, 0);
            Due.is("isGood(0) of an empty file with the flag " + flag, flag <= 1,
                    () -> y.isGood(0));
        }
        OssuaryVault end = forged(upToTheEnd(0));
        Due.is("hasIndex() within a file", true, () -> end.hasIndex());
        Due.is("isGood(0), up to the end of the stream", true, () -> end.isGood(0));
        Due.is("lengthFound(0) of it", 12, () -> end.lengthFound(0));
        OssuaryVault beyond = forged(upToTheEnd(1));
        Due.is("hasIndex() of the next", true, () -> beyond.hasIndex());
        dueBad("a byte beyond the end of the stream", beyond, 0);
    }

    /** The index and the six are the content, which has so many bytes of 0 more than there are. */
    private static int[] upToTheEnd(int more) {
        int[] there = Rows.withIndexAt(8, Rows.index(1, 0, 12 + more));
        int[] content = Rows.join(there, new int[more]);
        int[] head = Rows.part(Rows.file(0, 1, Rows.check(content), content), 0, 8);
        return Rows.join(head, there);
    }

    private static void goodKey() {
        OssuaryVault x = byIndex(Rows.join(nine(258), nine(0), nine(65535)), 258, 0, 3, 259, 0, 3,
                2, 0, 3, 514, 0, 3, 0, 11, 3, 1, 11, 3, 65535, 22, 3, 65534, 22, 3);
        for (int file = 0; file < 8; file++) {
            if (file == 0 || file == 4 || file == 6) {
                dueFile("its key", x, file, NINE);
            } else {
                dueBad("another key", x, file);
            }
        }
        OssuaryVault y = forged(nine(65535));
        dueFile("without an index any key", y, 0, NINE);
    }

    private static void dueUnpacked(int[] packed, int... content) {
        OssuaryVault x = forged(Rows.file(1, 7, Rows.check(content), packed));
        dueFile("unpacked " + Rows.text(packed), x, 0, content);
    }

    /** A byte follows the file, which a piece that is cut off could be taken to have. */
    private static void dueCutOff(int[] packed, int[]... contents) {
        for (int[] content : contents) {
            int[] file = Rows.file(1, 7, Rows.check(content), packed);
            OssuaryVault x = forged(Rows.join(file, Rows.row(4)));
            Due.is("found() of " + Rows.text(packed), 1, () -> x.found());
            dueBad("cut off " + Rows.text(packed), x, 0);
            OssuaryVault y = byIndex(file, 7, 0, content.length);
            dueBad("cut off, by an index " + Rows.text(packed), y, 0);
        }
    }

    private static void goodPieces() {
        dueUnpacked(Rows.row());
        dueUnpacked(Rows.row(0, 9), 9);
        dueUnpacked(Rows.row(128, 9), 9, 9);
        dueUnpacked(Rows.row(0, 9, 128, 8, 1, 7, 6), 9, 8, 8, 7, 6);
        dueCutOff(Rows.row(0), Rows.row(), Rows.row(4), Rows.row(0));
        dueCutOff(Rows.row(128), Rows.row(), Rows.row(4, 4), Rows.row(0, 0));
        dueCutOff(Rows.row(1, 9), Rows.row(), Rows.row(9), Rows.row(9, 4), Rows.row(9, 0));
        dueCutOff(Rows.row(0, 9, 0), Rows.row(9), Rows.row(9, 4), Rows.row(9, 0));
        dueCutOff(Rows.row(129, 9, 129), Rows.row(9, 9, 9), Rows.row(9, 9, 9, 4, 4, 4));
        dueCutOff(Rows.join(Rows.row(127), Rows.noise(1, 127)), Rows.noise(1, 127),
                Rows.join(Rows.noise(1, 127), Rows.row(4)));
    }

    private static void everyPiece() {
        for (int head = 0; head < 128; head++) {
            int[] bytes = Rows.noise(head, head + 1);
            dueUnpacked(Rows.join(Rows.row(head), bytes), bytes);
        }
        for (int head = 128; head < 256; head++) {
            dueUnpacked(Rows.row(head, head - 120), Rows.times(head - 120, head - 126));
        }
    }

    private static void goodRoom() {
        for (int many : new int[] {239, 240, 241, 242, 255, 256, 300}) {
            int[] content = Rows.noise(5, many);
            int[] file = Rows.file(0, 1, Rows.check(content), content);
            dueRoom("as it is, " + many, many, forged(file));
            dueRoom("as it is by an index, " + many, many, byIndex(file, 1, 0, many));
        }
        for (int many : new int[] {239, 240, 241}) {
            int[] runs = {255, 3, many - 129 + 126, 3};
            int check = Rows.check(Rows.times(3, many));
            dueRoom("in runs, " + many, many, forged(Rows.file(1, 1, check, runs)));
            int[] content = Rows.noise(5, many);
            int[] apart = Rows.join(Rows.row(127), Rows.part(content, 0, 128),
                    Rows.row(many - 129), Rows.part(content, 128, many));
            dueRoom("apart, " + many, many,
                    forged(Rows.file(1, 1, Rows.check(content), apart)));
        }
        int[] first = Rows.noise(5, 240);
        OssuaryVault stale = forged(Rows.join(nine(1), new int[300]));
        dueFile("a good file", stale, 0, NINE);
        Rows.force(stale, 0, 10 + 5, 241);
        Due.is("open() with 241 bytes where a good file was", 0, () -> stale.open());
        dueRoom("241 bytes where a good file was", 241, stale);
        OssuaryVault cut = forged(Rows.file(0, 1, Rows.check(first), Rows.noise(5, 241)));
        dueBad("241 bytes with the check of the first 240", cut, 0);
        OssuaryVault one = forged(Rows.file(1, 1, Rows.check(Rows.times(3, 240)), 255, 3, 237, 3, 0,
                3));
        dueBad("241 bytes, the last one apart, with the check of the first 240", one, 0);
        OssuaryVault run = forged(Rows.file(1, 1, Rows.check(Rows.times(3, 240)), 255, 3, 237, 3,
                128, 3));
        dueBad("242 bytes in runs with the check of the first 240", run, 0);
        int[] wide = new int[0];
        for (int b : first) {
            wide = Rows.join(wide, Rows.row(0, b));
        }
        dueRoom("packed into twice as many", 240, forged(Rows.file(1, 1, Rows.check(first), wide)));
    }

    private static void dueRoom(String what, int many, OssuaryVault x) {
        Due.is("found() " + what, 1, () -> x.found());
        Due.is("isGood(0) " + what, many <= 240, () -> x.isGood(0));
        Due.is("lengthFound(0) " + what, many <= 240 ? many : -1, () -> x.lengthFound(0));
    }

    private static void goodLength() {
        OssuaryVault x = byIndex(Rows.join(nine(1), fives(2), Rows.file(0, 3, 65535)), 1, 0, 3,
                1, 0, 2, 1, 0, 4, 1, 0, 0, 1, 0, 259, 1, 0, 65535, 2, 11, 4, 2, 11, 2, 3, 21, 0,
                3, 21, 1);
        int[] lengths = {3, -1, -1, -1, -1, -1, 4, -1, 0, -1};
        for (int i = 0; i < lengths.length; i++) {
            int file = i;
            Due.is("lengthFound(" + file + ")", lengths[file], () -> x.lengthFound(file));
            Due.is("isGood(" + file + ")", lengths[file] >= 0, () -> x.isGood(file));
        }
        OssuaryVault y = forged(fives(2));
        dueFile("without an index any length", y, 0, FIVES);
    }

    private static void goodCheck() {
        for (int by : new int[] {1, 128, 256, 32768}) {
            OssuaryVault x = forged(Rows.file(0, 1, Rows.check(NINE) ^ by, NINE));
            dueBad("the check with " + by, x, 0);
            OssuaryVault y = byIndex(Rows.file(1, 2, Rows.check(FIVES) ^ by, 130, 5), 2, 0, 4);
            dueBad("the check by an index with " + by, y, 0);
            OssuaryVault z = forged(Rows.file(0, 1, 65535 ^ by));
            dueBad("the check of nothing with " + by, z, 0);
        }
        OssuaryVault right = forged(Rows.join(nine(1), fives(2), Rows.file(0, 3, 65535)));
        dueFile("the right check", right, 0, NINE);
        dueFile("the right check of what is unpacked", right, 1, FIVES);
        dueFile("the right check of nothing", right, 2);
        OssuaryVault packed = forged(Rows.file(1, 2, Rows.check(130, 5), 130, 5));
        dueBad("the check of the packed form", packed, 0);
    }

    // ---- lasting

    private static String read(OssuaryVault x) {
        StringBuilder all = new StringBuilder(Rows.text(Rows.stream(x)));
        all.append(x.hasIndex());
        for (int file = 0; file < x.found(); file++) {
            all.append(x.keyFound(file)).append(' ').append(x.placeFound(file)).append(' ')
                    .append(x.isGood(file)).append(Rows.text(Rows.contentFound(x, file)));
        }
        return all.toString();
    }

    private static void asItWasOpened() {
        OssuaryVault x = threeOpen();
        String want = read(x);
        x.remove(1);
        Rows.storeFile(x, 2, 1);
        x.spoil(0, 12, 255);
        x.sign(0);
        Due.is("read with the desk and a volume changed", want, () -> read(x));
        for (int i = 0; i < 16; i++) {
            x.lose(i);
        }
        Due.is("read with all volumes lost", want, () -> read(x));
        Due.is("restore()", 3, () -> x.restore());
        Due.is("read behind restore()", want, () -> read(x));
        Due.is("repair()", 6, () -> x.repair());
        Due.is("read behind repair()", want, () -> read(x));
        Due.argument("build(11, 0), refused", () -> x.build(11, 0));
        Due.argument("build(1, 7), refused", () -> x.build(1, 7));
        Due.is("read behind a build that is refused", want, () -> read(x));
    }

    private static void openedAnew() {
        OssuaryVault x = threeOpen();
        x.spoil(0, 18, 1);
        x.sign(0);
        Due.is("open() anew", 0, () -> x.open());
        Due.is("streamAt(8), as it is opened then", 9 ^ 1, () -> x.streamAt(8));
        Due.is("isGood(0), as it is opened then", false, () -> x.isGood(0));
        x.cut(0, 9);
        x.cut(1, 0);
        x.lose(2);
        x.lose(5);
        Due.is("open() anew, which fails", -1, () -> x.open());
        Due.state("found() behind it", () -> x.found());
        Due.is("open() again, which fails too", -1, () -> x.open());
        Due.state("found() still", () -> x.found());
        x.build(1, 0);
        Due.is("open() of what is built", 0, () -> x.open());
        Due.is("found() of it", 3, () -> x.found());
        x.build(1, 0);
        Due.state("found() built anew", () -> x.found());
        OssuaryVault y = forged(Rows.join(nine(1), fives(2)));
        String before = read(y);
        Due.is("open() again, without an index", 0, () -> y.open());
        Due.is("what is read then", before, () -> read(y));
        Rows.force(y, 0, 10 + 4, 0, 241);
        y.cut(0, 10 + 20);
        Rows.force(y, 0, 4, 0, 20, 0, 20);
        Due.is("open() with the first file too long", 0, () -> y.open());
        Due.is("found() then", 0, () -> y.found());
    }

    // ---- asking

    private static void noneToSix() {
        OssuaryVault none = new OssuaryVault();
        Due.is("open() without volumes", -1, () -> none.open());
        OssuaryVault x = Rows.forged();
        x.build(1, 0);
        String stream = Rows.text(Rows.part(Rows.bytesOf(x, 0), 10, 4080));
        x.build(10, 6);
        for (int i = 0; i < 7; i++) {
            int lost = i;
            Due.is("open() with " + lost + " data volumes lost", lost, () -> x.open());
            Due.is("its stream", stream, () -> Rows.text(Rows.stream(x)));
            if (i < 6) {
                x.lose(9 - i);
            }
        }
        x.lose(15);
        Due.is("open() with one more lost", -1, () -> x.open());
        x.build(2, 6);
        for (int i = 10; i < 16; i++) {
            x.lose(i - 8);
        }
        Due.is("open() with no parity volume left", 0, () -> x.open());
        x.build(1, 0);
        x.spoil(0, 12, 1);
        Due.is("open() with none sound", -1, () -> x.open());
    }

    private static void noneToMost() {
        OssuaryVault none = forged();
        Due.is("opened() of nothing", 0, () -> none.opened());
        OssuaryVault one = forged(7);
        Due.is("opened() of a byte", 1, () -> one.opened());
        OssuaryVault x = Rows.forged(new int[4070]);
        Rows.force(x, 0, 2, 10);
        Rows.force(x, 0, 6, Rows.word(40700));
        for (int i = 1; i < 10; i++) {
            x.copy(0, i);
            Rows.force(x, i, 1, i);
        }
        Due.is("open() of ten of the longest volumes", 0, () -> x.open());
        Due.is("opened() of them", 40700, () -> x.opened());
    }

    private static void streamAtNone() {
        OssuaryVault none = forged();
        Due.index("streamAt(0) of nothing", () -> none.streamAt(0));
        OssuaryVault x = threeOpen();
        int[] stream = streamOfThree();
        int end = stream.length;
        Due.is("streamAt(0)", 69, () -> x.streamAt(0));
        Due.is("streamAt of the last", stream[end - 1], () -> x.streamAt(end - 1));
        for (int w : new int[] {-1, end, end + 1, MIN, MAX}) {
            Due.index("streamAt(" + w + ")", () -> x.streamAt(w));
        }
    }

    private static void indexOfNone() {
        OssuaryVault x = new OssuaryVault();
        x.build(1, 0);
        x.open();
        Due.is("hasIndex() of an empty desk", true, () -> x.hasIndex());
        OssuaryVault none = forged();
        Due.is("hasIndex() of nothing", false, () -> none.hasIndex());
        OssuaryVault y = threeOpen();
        Due.is("hasIndex() of three files", true, () -> y.hasIndex());
    }

    private static void goodOrNot() {
        OssuaryVault none = new OssuaryVault();
        none.build(2, 1);
        none.open();
        Due.is("found() of an empty desk", 0, () -> none.found());
        int[] bad = nine(2);
        bad[10] ^= 1;
        OssuaryVault x = forged(bad);
        Due.is("found() of one that is not good", 1, () -> x.found());
        OssuaryVault y = byIndex(nine(1), 7, 65535, 65535);
        Due.is("found() of one that is nowhere", 1, () -> y.found());
        OssuaryVault full = Rows.forged();
        full.build(10, 6);
        full.open();
        Due.is("found() of a full desk", 16, () -> full.found());
    }

    private static void keyOfIndex() {
        OssuaryVault x = byIndex(nine(5), 0, 0, 3, 65535, 0, 3, 5, 65535, 3);
        Due.is("keyFound(0), not that at its place", 0, () -> x.keyFound(0));
        Due.is("keyFound(1), not that at its place", 65535, () -> x.keyFound(1));
        Due.is("keyFound(2), nowhere", 5, () -> x.keyFound(2));
        OssuaryVault y = forged(Rows.join(nine(0), nine(65535), nine(256)));
        Due.is("keyFound(0), the least", 0, () -> y.keyFound(0));
        Due.is("keyFound(1), the greatest", 65535, () -> y.keyFound(1));
        Due.is("keyFound(2)", 256, () -> y.keyFound(2));
    }

    private static void placeOfIndex() {
        OssuaryVault x = byIndex(Rows.join(nine(5), nine(6)), 5, 0, 3, 5, 65535, 3, 5, 256, 3,
                6, 11, 3);
        Due.is("placeFound(0)", 0, () -> x.placeFound(0));
        Due.is("placeFound(1), the greatest, with nothing there", 65535, () -> x.placeFound(1));
        Due.is("placeFound(2)", 256, () -> x.placeFound(2));
        Due.is("placeFound(3)", 11, () -> x.placeFound(3));
        OssuaryVault y = forged(Rows.join(Rows.file(0, 1, 65535), nine(2)));
        Due.is("placeFound(0), found", 0, () -> y.placeFound(0));
        Due.is("placeFound(1), found", 8, () -> y.placeFound(1));
    }

    private static void noFile(String call, AskedFile asked) {
        OssuaryVault none = new OssuaryVault();
        none.build(1, 0);
        none.open();
        Due.index(call + "(0) of an empty desk", () -> asked.of(none, 0));
        OssuaryVault x = threeOpen();
        for (int w : new int[] {-1, 3, 4, 39, 40, MIN, MAX}) {
            Due.index(call + "(" + w + ") of three", () -> asked.of(x, w));
        }
        int[] want = answersOf(call, 1, 0, NINE.length);
        Due.is(call + "(0) of three", want[0], () -> asked.of(x, 0));
        Due.is(call + "(2) of three", answersOf(call, 3, 21, 0)[0], () -> asked.of(x, 2));
        int[] files = new int[0];
        for (int i = 0; i < 41; i++) {
            files = Rows.join(files, nine(i));
        }
        OssuaryVault many = forged(files);
        Due.is(call + "(39) of 41", answersOf(call, 39, 429, 3)[0], () -> asked.of(many, 39));
        Due.index(call + "(40) of 41", () -> asked.of(many, 40));
    }

    private static int[] answersOf(String call, int key, int place, int length) {
        return switch (call) {
            case "keyFound" -> Rows.row(key);
            case "placeFound" -> Rows.row(place);
            case "isGood" -> Rows.row(1);
            default -> Rows.row(length);
        };
    }

    private static void lengthOfBad() {
        int[] full = Rows.noise(8, 240);
        int[] bad = nine(2);
        bad[10] ^= 1;
        OssuaryVault x = forged(Rows.join(Rows.file(0, 1, 65535), bad,
                Rows.file(0, 3, Rows.check(full), full)));
        Due.is("lengthFound(0) of an empty one", 0, () -> x.lengthFound(0));
        Due.is("lengthFound(1) of one that is not good", -1, () -> x.lengthFound(1));
        Due.is("lengthFound(2) of the longest", 240, () -> x.lengthFound(2));
    }

    private static void byteOfNone() {
        OssuaryVault x = threeOpen();
        for (int w : new int[] {-1, 3, 40, MIN, MAX}) {
            Due.index("byteFound(" + w + ", 0)", () -> x.byteFound(w, 0));
            Due.index("byteFound(0, " + w + ")", () -> x.byteFound(0, w));
        }
        Due.is("byteFound(0, 0)", 9, () -> x.byteFound(0, 0));
        Due.is("byteFound(0, 2)", 7, () -> x.byteFound(0, 2));
        Due.is("byteFound(1, 3), packed into two", 5, () -> x.byteFound(1, 3));
        Due.index("byteFound(1, 4)", () -> x.byteFound(1, 4));
        Due.index("byteFound(2, 0) of an empty one", () -> x.byteFound(2, 0));
        x.spoil(0, 18, 1);
        x.sign(0);
        x.open();
        Due.is("isGood(0), spoilt", false, () -> x.isGood(0));
        Due.index("byteFound(0, 0) of one that is not good", () -> x.byteFound(0, 0));
        Due.index("byteFound(0, 2) of one that is not good", () -> x.byteFound(0, 2));
        Due.is("byteFound(1, 0) of a good one", 5, () -> x.byteFound(1, 0));
        int[] full = Rows.noise(8, 240);
        OssuaryVault y = forged(Rows.file(0, 3, Rows.check(full), full));
        Due.is("byteFound(0, 239) of the longest", full[239], () -> y.byteFound(0, 239));
        Due.index("byteFound(0, 240) of the longest", () -> y.byteFound(0, 240));
    }

    // ---- restoring

    private static void restoreInPlace() {
        OssuaryVault x = threeOpen();
        x.remove(1);
        Rows.storeFile(x, 2, Rows.noise(1, 240));
        Rows.storeFile(x, 3, 6);
        Rows.storeFile(x, 0, 8);
        x.write(4, 4);
        Due.is("restore()", 3, () -> x.restore());
        Due.is("files()", 4, () -> x.files());
        Due.is("what was there", "[8]", () -> Rows.text(Rows.content(x, 0)));
        Due.is("where none was", Rows.text(NINE), () -> Rows.text(Rows.content(x, 1)));
        Due.is("in place of a longer one", Rows.text(FIVES), () -> Rows.text(Rows.content(x, 2)));
        Due.is("an empty one in place of another", "[]", () -> Rows.text(Rows.content(x, 3)));
        Due.is("the sheet, as it was", 4, () -> x.cutSheet(4));
    }

    /** The desk of a forged one has the keys 0 to 15, of 240 bytes each. */
    private static void restoreNoRoom() {
        OssuaryVault x = forged(Rows.join(nine(16), nine(15), nine(65535), nine(0)));
        Due.is("restore() with 16 others for two", 2, () -> x.restore());
        Due.is("files()", 16, () -> x.files());
        Due.is("keyOf(15)", 15, () -> x.keyOf(15));
        Due.is("lengthOf(15), put in place", 3, () -> x.lengthOf(15));
        Due.is("lengthOf(0), put in place", 3, () -> x.lengthOf(0));
        Due.is("lengthOf(7), another", 240, () -> x.lengthOf(7));
        x.remove(7);
        Due.is("restore() with room for the first of two", 3, () -> x.restore());
        Due.is("keyOf(15) then", 16, () -> x.keyOf(15));
        Due.is("files() then", 16, () -> x.files());
        x.remove(1);
        x.remove(2);
        Due.is("restore() with room for both", 4, () -> x.restore());
        Due.is("files() with both", 15, () -> x.files());
        OssuaryVault none = forged(nine(16));
        Due.is("restore() with no room for the only one", 0, () -> none.restore());
        Due.is("keyOf(15) of it", 15, () -> none.keyOf(15));
    }

    private static void restoreTwice() {
        int[] last = {6, 6};
        int[] bad = nine(20);
        bad[10] ^= 1;
        OssuaryVault x = forged(Rows.join(nine(20), fives(20), bad,
                Rows.file(0, 20, Rows.check(last), last)));
        x.remove(0);
        Due.is("restore() of a key three times good, once not", 3, () -> x.restore());
        Due.is("files()", 16, () -> x.files());
        Due.is("the last one stays", Rows.text(last), () -> Rows.text(Rows.content(x, 15)));
        OssuaryVault y = forged(Rows.join(nine(20), nine(20)));
        Due.is("restore() of a key twice with no room", 0, () -> y.restore());
        OssuaryVault none = new OssuaryVault();
        none.build(1, 0);
        none.open();
        Due.is("restore() of no files", 0, () -> none.restore());
        OssuaryVault w = forged(bad);
        Due.is("restore() of none good", 0, () -> w.restore());
        OssuaryVault all = threeOpen();
        Due.is("restore() of what is there", 3, () -> all.restore());
        Due.is("restore() again", 3, () -> all.restore());
    }

    private static void costOfNone() {
        OssuaryVault x = new OssuaryVault();
        Due.is("cost() of a new object", 0.0, () -> x.cost());
        x.store(1);
        x.write(1, 100);
        x.build(1, 0);
        Due.is("cost() of an empty file and volumes", 0.0, () -> x.cost());
        x.store(2);
        x.remove(2);
        Due.is("cost() with the file removed", 0.0, () -> x.cost());
        Rows.storeFile(x, 2, 7);
        Due.is("cost() of one byte", 30.0, () -> x.cost());
        x.lose(0);
        Due.is("cost() of one byte without volumes", 0.0, () -> x.cost());
    }

    private static void costNotCut() {
        OssuaryVault x = three();
        Due.is("build(3, 3)", 18, () -> x.build(3, 3));
        Due.is("cost()", 6 * 28 / 7.0, () -> x.cost());
        x.cut(0, 1);
        x.lose(1);
        x.copy(5, 15);
        Due.is("cost() with changes", (1 + 5 * 28) / 7.0, () -> x.cost());
        Rows.storeFile(x, 9, 1, 2, 3);
        Due.is("cost() not cut", 141 / 10.0, () -> x.cost());
        x.cut(0, 0);
        Due.is("cost() with a volume of no bytes", 140 / 10.0, () -> x.cost());
        x.remove(9);
        x.remove(2);
        Due.is("cost() by three bytes", 140 / 3.0, () -> x.cost());
    }

    /** The numbers of a new object are told one by one: 3 * 16 of places, and 7 more. */
    private static void digestWraps() {
        OssuaryVault x = new OssuaryVault();
        java.math.BigInteger d = java.math.BigInteger.valueOf(2473);
        int[] numbers = Rows.join(Rows.row(0, 6), placesWithoutVolumes(), Rows.row(-1, 0, -1, 0));
        for (int v : numbers) {
            d = d.multiply(java.math.BigInteger.valueOf(31)).add(java.math.BigInteger.valueOf(v));
        }
        long want = d.longValue();
        int bits = d.bitLength();
        Due.is("the digest without wrapping around has more than 64 bits", true, () -> bits > 64);
        Due.is("digest()", want, () -> x.digest());
    }

    private static int[] placesWithoutVolumes() {
        int[] all = new int[0];
        for (int i = 0; i < 16; i++) {
            all = Rows.join(all, Rows.row(-1, 0, -1));
        }
        return all;
    }

    private static void digestOpenOrNot() {
        OssuaryVault x = new OssuaryVault();
        x.build(1, 0);
        long built = 2473;
        int[] bytes = Rows.bytesOf(x, 0);
        int[] numbers = Rows.join(Rows.row(0, 6, 16, 1, 0), bytes,
                Rows.part(placesWithoutVolumes(), 3, 48), Rows.row(0, 1, 0));
        for (int v : numbers) {
            built = built * 31 + v;
        }
        long closed = built * 31;
        long open = (((built * 31 + 1) * 31 + 6) * 31 + 1) * 31;
        Due.is("digest(), built and not opened", closed, () -> x.digest());
        x.open();
        Due.is("digest(), open, of no files", open, () -> x.digest());
        x.lose(0);
        Due.is("open() fails", -1, () -> x.open());
        x.build(1, 0);
        Due.is("digest(), built again", closed, () -> x.digest());
    }

    private static void digestOfMost() {
        OssuaryVault none = new OssuaryVault();
        Due.is("digest() of a new object", Rows.digest(none, false), () -> none.digest());
        int[] files = new int[0];
        for (int i = 0; i < 41; i++) {
            files = Rows.join(files, i % 3 == 1 ? Rows.file(0, i, 5, NINE) : fives(i));
        }
        OssuaryVault x = forged(files);
        Due.is("digest() of a full desk, and 40 files found, good or not", Rows.digest(x, true),
                () -> x.digest());
        x.build(10, 6);
        Due.is("digest() of 16 volumes", Rows.digest(x, false), () -> x.digest());
    }
}
