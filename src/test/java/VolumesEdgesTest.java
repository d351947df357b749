/** The edges that the pages on the archive and its volumes name, and those of promises 19 to 33. */
final class VolumesEdgesTest {
    private static final int MIN = Integer.MIN_VALUE;
    private static final int MAX = Integer.MAX_VALUE;
    /** What is no place of the shelf. */
    private static final int[] NO_PLACE = {-1, 16, MIN, MAX};
    private static final String WRONG_VOLUME =
            "Throws `IndexOutOfBoundsException` if volume is not 0 to 15";

    public static void main(String[] args) throws Exception {
        Sentences.read();
        stream();
        bodies();
        sound();
        ofTheArchive();
        building();
        changing();
        asking();
        Sentences.end("VolumesEdgesTest", 19, 33);
    }

    private static void stream() {
        Sentences.ask(0, "A word is two bytes, the one for 256 first.", VolumesEdgesTest::words);
        Sentences.ask(0, "1 if its packed form is shorter than its content, otherwise 0",
                VolumesEdgesTest::flags);
        Sentences.ask(0, "Then 88, how many files there are, the place of the index, a word, and "
                + "the check of the index (without these), a word.", VolumesEdgesTest::tails);
        Sentences.ask(0, "the place in the stream of its 69, and the length of its content",
                VolumesEdgesTest::indexOfSixteen);
    }

    private static void bodies() {
        Sentences.ask(0, "each has n = (bytes of the stream + D - 1) / D bytes of body",
                VolumesEdgesTest::bodySizes);
        Sentences.ask(0, "with as many 0 behind it as are needed for D * n bytes",
                VolumesEdgesTest::padding);
        Sentences.ask(0, "Building puts the volumes into the places 0 to D + P - 1, by their "
                + "numbers; what was there before is gone, at all 16 places.",
                VolumesEdgesTest::allPlacesBuilt);
        Sentences.ask(0, "If several exceptions apply, the one that is named first is thrown.",
                VolumesEdgesTest::firstNamed);
    }

    private static void sound() {
        Sentences.ask(0, "if it has a volume of 10 bytes or more", VolumesEdgesTest::tenBytes);
        Sentences.ask(0, "the first one 86", VolumesEdgesTest::firstByte);
        Sentences.ask(0, "D is 1 to 10", VolumesEdgesTest::dataTold);
        Sentences.ask(0, "P is 0 to 6", VolumesEdgesTest::parityTold);
        Sentences.ask(0, "its number is less than D + P", VolumesEdgesTest::numberTold);
        Sentences.ask(0, "it has 10 + n bytes", VolumesEdgesTest::asLongAsTold);
        Sentences.ask(0, "n is as D and the bytes of the stream want it",
                VolumesEdgesTest::bodyTold);
        Sentences.ask(0, "and its check is right.", VolumesEdgesTest::checkTold);
        Sentences.ask(0, "(Also if it was not built, but made so by changes.)",
                VolumesEdgesTest::madeByChanges);
    }

    private static void ofTheArchive() {
        Sentences.ask(0, "The leader is the first place that is sound.",
                VolumesEdgesTest::firstSound);
        Sentences.ask(0, "have the same D, P, n and bytes of the stream as the leader",
                VolumesEdgesTest::sameHead);
        Sentences.ask(0, "of several with the same number only the first one is.",
                VolumesEdgesTest::firstOfNumber);
    }

    private static void building() {
        Sentences.ask(19, "None is open behind it.", VolumesEdgesTest::buildCloses);
        Sentences.ask(19, "Throws `IllegalArgumentException` if data is not 1 to 10, or parity is "
                + "not 0 to 6", VolumesEdgesTest::buildWrong);
        Sentences.ask(20, "Returns how many bytes the volume there has; -1 without one.",
                VolumesEdgesTest::sizeWithoutOne);
        Sentences.ask(20, WRONG_VOLUME, VolumesEdgesTest::sizeWrong);
        Sentences.ask(21, WRONG_VOLUME + ", or there is no volume, or no such place in it",
                VolumesEdgesTest::byteWrong);
    }

    private static void changing() {
        Sentences.ask(22, WRONG_VOLUME + ", or there is no volume, or no such place in it",
                VolumesEdgesTest::spoilNowhere);
        Sentences.ask(22, "Throws `IllegalArgumentException` if by is not 0 to 255",
                VolumesEdgesTest::spoilWrong);
        Sentences.ask(23, WRONG_VOLUME + ", or there is no volume", VolumesEdgesTest::signNowhere);
        Sentences.ask(23, "Throws `IllegalStateException` if it has less than 10 bytes",
                VolumesEdgesTest::signShort);
        Sentences.ask(24, WRONG_VOLUME + ", or there is no volume", VolumesEdgesTest::cutNowhere);
        Sentences.ask(24, "Throws `IllegalArgumentException` if many is not 0 to how many there "
                + "are", VolumesEdgesTest::cutWrong);
        Sentences.ask(25, "Returns whether there was one.", VolumesEdgesTest::loseNone);
        Sentences.ask(25, WRONG_VOLUME, VolumesEdgesTest::loseNowhere);
        Sentences.ask(26, "Returns how many of both have a volume (2 for a volume that is "
                + "exchanged with itself).", VolumesEdgesTest::exchangeCounts);
        Sentences.ask(26, "Throws `IndexOutOfBoundsException` if volume or other is not 0 to 15",
                VolumesEdgesTest::exchangeNowhere);
        Sentences.ask(27, "in place of what was there.", VolumesEdgesTest::copyInPlace);
        Sentences.ask(27, WRONG_VOLUME + ", or there is no volume, or other is not 0 to 15",
                VolumesEdgesTest::copyNowhere);
    }

    private static void asking() {
        Sentences.ask(28, WRONG_VOLUME, VolumesEdgesTest::soundNowhere);
        Sentences.ask(29, "Returns the leader; -1 without one.", VolumesEdgesTest::noLeader);
        Sentences.ask(30, "Returns how many places are of the archive.",
                VolumesEdgesTest::noneToSixteen);
        Sentences.ask(31, "Returns the number of its volume, if it is of the archive; -1 "
                + "otherwise.", VolumesEdgesTest::numberOtherwise);
        Sentences.ask(31, WRONG_VOLUME, VolumesEdgesTest::numberNowhere);
        Sentences.ask(32, "Returns present() less D; -1 if it cannot be opened now.",
                VolumesEdgesTest::spareOrNot);
        Sentences.ask(33, "the other places lose theirs.", VolumesEdgesTest::repairLoses);
        Sentences.ask(33, "Returns how many places are other than before.",
                VolumesEdgesTest::repairCounts);
        Sentences.ask(33, "Throws `IllegalStateException` if no archive is open",
                VolumesEdgesTest::repairClosed);
    }

    /** A desk whose stream has so many bytes, 20 to 260. */
    private static OssuaryVault ofStream(int bytes) {
        OssuaryVault x = new OssuaryVault();
        Rows.storeFile(x, 1, Rows.noise(3, bytes - 20));
        return x;
    }

    /** Two data volumes of a stream of 54 bytes, 27 each, and two of parity. */
    private static OssuaryVault two() {
        OssuaryVault x = ofStream(54);
        x.build(2, 2);
        return x;
    }

    private static int[] streamOf(OssuaryVault x) {
        x.build(1, 0);
        return Rows.part(Rows.bytesOf(x, 0), 10, x.sizeOf(0));
    }

    private static String head(OssuaryVault x, int volume) {
        return Rows.text(Rows.part(Rows.bytesOf(x, volume), 0, 8));
    }

    /** Whether the first volume is sound when its bytes from a place on are others, and signed. */
    private static void forced(String what, boolean want, int place, int... bytes) {
        OssuaryVault x = two();
        Rows.force(x, 0, place, bytes);
        Due.is("isSound(0) with " + what, want, () -> x.isSound(0));
    }

    // ---- the stream

    private static void words() {
        OssuaryVault x = new OssuaryVault();
        for (int key : new int[] {0, 255, 256, 65535}) {
            x.store(key);
        }
        int[] want = Rows.join(Rows.row(69, 0, 0, 0, 0, 0, 255, 255),
                Rows.row(69, 0, 0, 255, 0, 0, 255, 255), Rows.row(69, 0, 1, 0, 0, 0, 255, 255),
                Rows.row(69, 0, 255, 255, 0, 0, 255, 255));
        Due.is("the files with the least and the greatest words", Rows.text(want),
                () -> Rows.text(Rows.part(streamOf(x), 0, 32)));
        for (int bytes : new int[] {254, 255, 256, 257}) {
            OssuaryVault y = ofStream(bytes);
            y.build(1, 0);
            int[] head = Rows.join(Rows.row(86, 0, 1, 0), Rows.word(bytes), Rows.word(bytes));
            Due.is("the head over a stream of " + bytes, Rows.text(head), () -> head(y, 0));
        }
    }

    private static void flags() {
        flag(0);
        flag(0, 5);
        flag(0, 5, 5);
        flag(1, 5, 5, 5);
        flag(0, 5, 5, 5, 6);
        flag(1, 5, 5, 5, 5, 6);
        flag(0, Rows.join(Rows.row(5, 5, 5), Rows.part(Rows.noise(1, 240), 0, 129)));
        flag(1, Rows.times(0, 240));
    }

    private static void flag(int want, int... content) {
        OssuaryVault x = new OssuaryVault();
        Rows.storeFile(x, 1, content);
        int[] body = want == 1 ? Rows.packed(x, 0) : content;
        int[] file = Rows.file(want, 1, Rows.check(content), body);
        Due.is("the file of " + Rows.text(content), Rows.text(file),
                () -> Rows.text(Rows.part(streamOf(x), 0, file.length)));
    }

    private static void tails() {
        OssuaryVault none = new OssuaryVault();
        Due.is("the stream of an empty desk", "[88, 0, 0, 0, 255, 255]",
                () -> Rows.text(streamOf(none)));
        OssuaryVault empty = new OssuaryVault();
        empty.store(0);
        int[] index = Rows.index(0, 0, 0);
        int[] want = Rows.join(Rows.file(0, 0, 65535), index, Rows.tail(1, 8, index));
        Due.is("the stream of an empty file", Rows.text(want), () -> Rows.text(streamOf(empty)));
        for (int length : new int[] {239, 240}) {
            OssuaryVault x = new OssuaryVault();
            x.store(0);
            Rows.storeFile(x, 1, Rows.noise(1, length));
            int[] all = streamOf(x);
            int[] tail = Rows.tail(2, 16 + length, Rows.index(0, 0, 0, 1, 8, length));
            Due.is("the last six, the index at " + (16 + length), Rows.text(tail),
                    () -> Rows.text(Rows.part(all, all.length - 6, all.length)));
        }
    }

    private static void indexOfSixteen() {
        OssuaryVault x = new OssuaryVault();
        int[] index = new int[0];
        for (int file = 0; file < 16; file++) {
            Rows.storeFile(x, file, Rows.noise(file, 240));
            index = Rows.join(index, Rows.index(file, file * 248, 240));
        }
        int[] want = Rows.join(index, Rows.tail(16, 16 * 248, index));
        int[] all = streamOf(x);
        Due.is("the index of 16 files", Rows.text(want),
                () -> Rows.text(Rows.part(all, 16 * 248, all.length)));
        Due.is("how long it is", 4070, () -> all.length);
        OssuaryVault packed = new OssuaryVault();
        Rows.storeFile(packed, 1, 4, 4, 4);
        Rows.storeFile(packed, 2, 4, 4);
        int[] both = Rows.index(1, 0, 3, 2, 10, 2);
        int[] stream = streamOf(packed);
        Due.is("the index behind a packed file", Rows.text(both),
                () -> Rows.text(Rows.part(stream, 20, 32)));
    }

    // ---- bodies

    private static void bodySizes() {
        for (int data = 1; data <= 10; data++) {
            for (int bytes = 20; bytes <= 41; bytes++) {
                OssuaryVault x = ofStream(bytes);
                int d = data;
                int n = bytes / data + (bytes % data == 0 ? 0 : 1);
                Due.is("build(" + d + ", 1) of " + bytes, n, () -> x.build(d, 1));
                Due.is("sizeOf(0) of it", 10 + n, () -> x.sizeOf(0));
                Due.is("sizeOf(D) of it", 10 + n, () -> x.sizeOf(d));
            }
        }
        OssuaryVault none = new OssuaryVault();
        Due.is("build(6, 0), a byte each", 1, () -> none.build(6, 0));
        Due.is("build(7, 0), one volume of padding", 1, () -> none.build(7, 0));
        Due.is("build(5, 0)", 2, () -> none.build(5, 0));
    }

    private static void padding() {
        OssuaryVault exact = ofStream(54);
        exact.build(6, 0);
        Due.is("byteAt(5, 18), no padding", exact.byteAt(5, 18), () -> streamOf(ofStream(54))[53]);
        OssuaryVault x = ofStream(55);
        x.build(6, 0);
        int[] want = {streamOf(ofStream(55))[54], 0, 0, 0, 0, 0};
        Due.is("the last byte and D - 1 of padding", Rows.text(want),
                () -> Rows.text(Rows.part(Rows.bytesOf(x, 5), 14, 20)));
        OssuaryVault none = new OssuaryVault();
        none.build(10, 1);
        for (int i = 6; i < 10; i++) {
            int place = i;
            Due.is("byteAt(" + place + ", 10), all of it padding", 0, () -> none.byteAt(place, 10));
        }
        int sum = 0;
        int[] six = {88, 0, 0, 0, 255, 255};
        for (int d = 0; d < 6; d++) {
            sum ^= none.product(none.coefficient(0, d), six[d]);
        }
        int parity = sum;
        Due.is("byteAt(10, 10), the parity of it", parity, () -> none.byteAt(10, 10));
        OssuaryVault before = ofStream(260);
        before.build(2, 0);
        before.remove(1);
        before.build(4, 0);
        Due.is("byteAt(3, 11), padding where a longer stream was", 0, () -> before.byteAt(3, 11));
    }

    private static void allPlacesBuilt() {
        OssuaryVault x = two();
        for (int i = 4; i < 16; i++) {
            x.copy(0, i);
        }
        x.build(1, 0);
        Due.is("sizeOf(0)", 64, () -> x.sizeOf(0));
        for (int i = 1; i < 16; i++) {
            int place = i;
            Due.is("sizeOf(" + place + ") behind build(1, 0)", -1, () -> x.sizeOf(place));
        }
        x.build(10, 6);
        for (int i = 0; i < 16; i++) {
            int place = i;
            Due.is("byteAt(" + place + ", 1) behind build(10, 6)", place,
                    () -> x.byteAt(place, 1));
            Due.is("isSound(" + place + ") behind build(10, 6)", true, () -> x.isSound(place));
        }
    }

    private static void firstNamed() {
        OssuaryVault x = full();
        Due.argument("write(256, 200), no room", () -> x.write(256, 200));
        Due.argument("noise(-1, 240), no room", () -> x.noise(-1, 240));
        Due.argument("store(65536), no room", () -> x.store(65536));
        x.build(1, 0);
        Due.index("spoil(0, 4080, 256)", () -> x.spoil(0, 4080, 256));
        Due.index("spoil(1, 0, -1)", () -> x.spoil(1, 0, -1));
        Due.index("spoil(16, 0, -1)", () -> x.spoil(16, 0, -1));
        Due.index("cut(1, -1)", () -> x.cut(1, -1));
        Due.index("cut(16, MAX)", () -> x.cut(16, MAX));
        Due.index("sign(1)", () -> x.sign(1));
        Due.state("streamAt(-1), not open", () -> x.streamAt(-1));
        Due.state("keyFound(-1), not open", () -> x.keyFound(-1));
        Due.state("placeFound(-1), not open", () -> x.placeFound(-1));
        Due.state("isGood(-1), not open", () -> x.isGood(-1));
        Due.state("lengthFound(-1), not open", () -> x.lengthFound(-1));
        Due.state("byteFound(-1, -1), not open", () -> x.byteFound(-1, -1));
    }

    private static OssuaryVault full() {
        OssuaryVault x = new OssuaryVault();
        for (int key = 0; key < 16; key++) {
            Rows.storeFile(x, key, Rows.noise(key, 240));
        }
        x.noise(5, 240);
        return x;
    }

    // ---- sound

    private static void tenBytes() {
        OssuaryVault x = two();
        x.cut(0, 10);
        Rows.force(x, 0, 4, 0, 0, 0, 0);
        Due.is("isSound(0) of 10 bytes", true, () -> x.isSound(0));
        x.cut(0, 9);
        Due.is("isSound(0) of 9", false, () -> x.isSound(0));
        x.cut(0, 1);
        Due.is("isSound(0) of 1", false, () -> x.isSound(0));
        x.cut(0, 0);
        Due.is("isSound(0) of none", false, () -> x.isSound(0));
        x.lose(0);
        Due.is("isSound(0) without a volume", false, () -> x.isSound(0));
    }

    private static void firstByte() {
        forced("86 at first", true, 0, 86);
        for (int wrong : new int[] {0, 69, 85, 87, 88, 255}) {
            forced(wrong + " at first", false, 0, wrong);
        }
    }

    /** D, P, n and the bytes of the stream are forced, so that D alone is wrong. */
    private static void dataTold() {
        forced("D = 1", true, 2, 1, 2, 0, 27, 0, 27);
        forced("D = 2", true, 2, 2, 2, 0, 27, 0, 54);
        forced("D = 10", true, 2, 10, 2, 0, 27, 1, 14);
        forced("D = 11", false, 2, 11, 2, 0, 27, 1, 41);
        forced("D = 255", false, 2, 255, 2, 0, 27, 26, 229);
        forced("D = 0, a stream of 0", false, 2, 0, 2, 0, 27, 0, 0);
        OssuaryVault x = two();
        x.cut(0, 10);
        Rows.force(x, 0, 2, 0, 2, 0, 0, 0, 0);
        Due.is("isSound(0) with D = 0 and nothing else wrong", false, () -> x.isSound(0));
        Rows.force(x, 0, 2, 1);
        Due.is("isSound(0) with D = 1 then", true, () -> x.isSound(0));
    }

    private static void parityTold() {
        forced("P = 0", true, 3, 0);
        forced("P = 6", true, 3, 6);
        forced("P = 7", false, 3, 7);
        forced("P = 255", false, 3, 255);
    }

    private static void numberTold() {
        forced("number 0", true, 1, 0);
        forced("number 3 of 2 + 2", true, 1, 3);
        forced("number 4 of 2 + 2", false, 1, 4);
        forced("number 255", false, 1, 255);
        forced("number 1 of 2 + 0", true, 1, 1, 2, 0);
        forced("number 2 of 2 + 0", false, 1, 2, 2, 0);
        forced("number 15 of 10 + 6", true, 1, 15, 10, 6, 0, 27, 1, 14);
        forced("number 16 of 10 + 6", false, 1, 16, 10, 6, 0, 27, 1, 14);
    }

    private static void asLongAsTold() {
        forced("10 + n bytes, n = 27", true, 4, 0, 27, 0, 54);
        forced("a byte less than 10 + n, n = 28", false, 4, 0, 28, 0, 56);
        forced("a byte more than 10 + n, n = 26", false, 4, 0, 26, 0, 52);
        forced("256 bytes less, n = 283", false, 4, 1, 27, 2, 54);
        forced("none of 65535", false, 2, 1, 2, 255, 255, 255, 255);
        OssuaryVault x = two();
        x.cut(0, 36);
        x.sign(0);
        Due.is("isSound(0) cut by a byte", false, () -> x.isSound(0));
        Rows.force(x, 0, 4, 0, 26, 0, 52);
        Due.is("isSound(0) with the n that it has then", true, () -> x.isSound(0));
    }

    private static void bodyTold() {
        forced("the stream of 52, the most for n = 26", false, 6, 0, 52);
        forced("the stream of 53, the least for n = 27", true, 6, 0, 53);
        forced("the stream of 54, the most for n = 27", true, 6, 0, 54);
        forced("the stream of 55, the least for n = 28", false, 6, 0, 55);
        forced("the stream of 0", false, 6, 0, 0);
        forced("the stream of 256 + 54", false, 6, 1, 54);
        OssuaryVault x = two();
        x.cut(0, 10);
        Rows.force(x, 0, 4, 0, 0, 0, 0);
        Due.is("isSound(0), n = 0 for a stream of 0", true, () -> x.isSound(0));
        Rows.force(x, 0, 7, 1);
        Due.is("isSound(0), n = 0 for a stream of 1", false, () -> x.isSound(0));
    }

    private static void checkTold() {
        OssuaryVault x = two();
        for (int i = 0; i < 37; i++) {
            int place = i;
            for (int by : new int[] {1, 128}) {
                x.spoil(0, place, by);
                Due.is("isSound(0), byte " + place + " with " + by, false, () -> x.isSound(0));
                x.spoil(0, place, by);
            }
        }
        Due.is("isSound(0), all taken back", true, () -> x.isSound(0));
        x.spoil(0, 36, 1);
        Due.is("isSound(0), its last byte changed", false, () -> x.isSound(0));
        x.sign(0);
        Due.is("isSound(0) signed", true, () -> x.isSound(0));
    }

    private static void madeByChanges() {
        OssuaryVault x = two();
        x.copy(2, 15);
        Rows.force(x, 15, 1, 5, 7, 6, 0, 27, 0, 187);
        Due.is("isSound(15)", true, () -> x.isSound(15));
        x.exchange(0, 15);
        Due.is("leader()", 0, () -> x.leader());
        Due.is("present()", 1, () -> x.present());
        Due.is("numberOf(0)", 5, () -> x.numberOf(0));
    }

    // ---- of the archive

    private static void firstSound() {
        OssuaryVault x = two();
        Due.is("leader(), the first place", 0, () -> x.leader());
        x.copy(0, 15);
        for (int i = 0; i < 4; i++) {
            int next = i == 3 ? 15 : i + 1;
            x.spoil(i, 36, 1);
            Due.is("leader() with " + i + " spoilt", next, () -> x.leader());
        }
        x.cut(15, 9);
        Due.is("leader() without a sound one", -1, () -> x.leader());
        x.spoil(3, 36, 1);
        Due.is("leader() with 3 alone", 3, () -> x.leader());
    }

    private static void sameHead() {
        int[] leader = {8, 2, 0, 1, 0, 6};
        heads("all the same", true, leader, leader);
        heads("a greater D", false, leader, Rows.row(9, 2, 0, 1, 0, 6));
        heads("a smaller D", false, leader, Rows.row(7, 2, 0, 1, 0, 6));
        heads("a greater P", false, leader, Rows.row(8, 3, 0, 1, 0, 6));
        heads("a smaller P", false, leader, Rows.row(8, 1, 0, 1, 0, 6));
        heads("a longer stream", false, leader, Rows.row(8, 2, 0, 1, 0, 7));
        heads("a shorter stream", false, leader, Rows.row(8, 2, 0, 1, 0, 5));
        OssuaryVault x = two();
        x.cut(3, 36);
        Rows.force(x, 3, 4, 0, 26, 0, 52);
        Due.is("isSound(3) with another n", true, () -> x.isSound(3));
        Due.is("numberOf(3) with another n", -1, () -> x.numberOf(3));
        Due.is("present()", 3, () -> x.present());
    }

    /** Two volumes whose D, P, n and bytes of the stream are these, sound both. */
    private static void heads(String what, boolean same, int[] leader, int[] other) {
        OssuaryVault x = new OssuaryVault();
        x.build(8, 0);
        for (int i = 2; i < 8; i++) {
            x.lose(i);
        }
        Rows.force(x, 0, 2, leader);
        Rows.force(x, 1, 2, other);
        Due.is("isSound(1) with " + what, true, () -> x.isSound(1));
        Due.is("leader() with " + what, 0, () -> x.leader());
        Due.is("numberOf(1) with " + what, same ? 1 : -1, () -> x.numberOf(1));
        Due.is("present() with " + what, same ? 2 : 1, () -> x.present());
    }

    private static void firstOfNumber() {
        OssuaryVault x = two();
        for (int i = 4; i < 16; i++) {
            x.copy(1, i);
        }
        Due.is("present() with thirteen of number 1", 4, () -> x.present());
        Due.is("numberOf(1), the first", 1, () -> x.numberOf(1));
        Due.is("numberOf(4), the second", -1, () -> x.numberOf(4));
        Due.is("numberOf(15), the last", -1, () -> x.numberOf(15));
        x.lose(1);
        Due.is("numberOf(4), the first then", 1, () -> x.numberOf(4));
        x.copy(1 + 3, 0);
        Due.is("numberOf(0), the leader itself", 1, () -> x.numberOf(0));
        Due.is("numberOf(4) behind it", -1, () -> x.numberOf(4));
        Due.is("present() without number 0", 3, () -> x.present());
    }

    // ---- building

    private static void buildCloses() {
        OssuaryVault x = two();
        x.open();
        Due.is("opened()", 54, () -> x.opened());
        x.build(2, 2);
        Due.state("opened() behind build", () -> x.opened());
        Due.state("repair() behind build", () -> x.repair());
    }

    private static void buildWrong() {
        OssuaryVault x = two();
        x.open();
        for (int w : new int[] {0, 11, -1, MIN, MAX}) {
            Due.argument("build(" + w + ", 0)", () -> x.build(w, 0));
            Due.argument("build(" + w + ", 6)", () -> x.build(w, 6));
        }
        for (int w : new int[] {-1, 7, MIN, MAX}) {
            Due.argument("build(1, " + w + ")", () -> x.build(1, w));
            Due.argument("build(10, " + w + ")", () -> x.build(10, w));
        }
        Due.is("opened(), still", 54, () -> x.opened());
        Due.is("present(), still", 4, () -> x.present());
        Due.is("build(1, 0)", 54, () -> x.build(1, 0));
        Due.is("build(10, 6)", 6, () -> x.build(10, 6));
        Due.is("build(1, 6)", 54, () -> x.build(1, 6));
        Due.is("build(10, 0)", 6, () -> x.build(10, 0));
    }

    private static void sizeWithoutOne() {
        OssuaryVault x = two();
        Due.is("sizeOf(3)", 37, () -> x.sizeOf(3));
        Due.is("sizeOf(4)", -1, () -> x.sizeOf(4));
        Due.is("sizeOf(15)", -1, () -> x.sizeOf(15));
        x.cut(3, 0);
        Due.is("sizeOf(3) of no bytes", 0, () -> x.sizeOf(3));
        x.lose(3);
        Due.is("sizeOf(3), lost", -1, () -> x.sizeOf(3));
        OssuaryVault full = full();
        full.build(1, 0);
        Due.is("sizeOf(0), the longest", 4080, () -> full.sizeOf(0));
    }

    private static void sizeWrong() {
        OssuaryVault x = two();
        for (int w : NO_PLACE) {
            Due.index("sizeOf(" + w + ")", () -> x.sizeOf(w));
        }
        Due.is("sizeOf(0)", 37, () -> x.sizeOf(0));
        Due.is("sizeOf(15)", -1, () -> x.sizeOf(15));
    }

    private static void byteWrong() {
        OssuaryVault x = two();
        for (int w : NO_PLACE) {
            Due.index("byteAt(" + w + ", 0)", () -> x.byteAt(w, 0));
        }
        Due.index("byteAt(4, 0) without one", () -> x.byteAt(4, 0));
        for (int w : new int[] {-1, 37, 38, MIN, MAX}) {
            Due.index("byteAt(0, " + w + ")", () -> x.byteAt(0, w));
        }
        Due.is("byteAt(0, 0)", 86, () -> x.byteAt(0, 0));
        Due.is("byteAt(0, 36)", streamOf(ofStream(54))[26], () -> x.byteAt(0, 36));
        x.copy(0, 15);
        Due.is("byteAt(15, 0)", 86, () -> x.byteAt(15, 0));
        x.cut(0, 1);
        Due.is("byteAt(0, 0) of 1", 86, () -> x.byteAt(0, 0));
        Due.index("byteAt(0, 1) of 1", () -> x.byteAt(0, 1));
        x.cut(0, 0);
        Due.index("byteAt(0, 0) of none", () -> x.byteAt(0, 0));
    }

    // ---- changing

    private static void spoilNowhere() {
        OssuaryVault x = two();
        int[] before = Rows.bytesOf(x, 0);
        for (int w : NO_PLACE) {
            Due.index("spoil(" + w + ", 0, 1)", () -> x.spoil(w, 0, 1));
        }
        Due.index("spoil(4, 0, 1) without one", () -> x.spoil(4, 0, 1));
        for (int w : new int[] {-1, 37, 38, MIN, MAX}) {
            Due.index("spoil(0, " + w + ", 1)", () -> x.spoil(0, w, 1));
        }
        Due.is("the volume is as it was", Rows.text(before), () -> Rows.text(Rows.bytesOf(x, 0)));
        Due.is("spoil(0, 0, 1)", 87, () -> x.spoil(0, 0, 1));
        Due.is("spoil(0, 36, 1)", before[36] ^ 1, () -> x.spoil(0, 36, 1));
        x.cut(0, 0);
        Due.index("spoil(0, 0, 1) of no bytes", () -> x.spoil(0, 0, 1));
    }

    private static void spoilWrong() {
        OssuaryVault x = two();
        for (int w : new int[] {-1, 256, MIN, MAX}) {
            Due.argument("spoil(0, 0, " + w + ")", () -> x.spoil(0, 0, w));
            Due.argument("spoil(3, 36, " + w + ")", () -> x.spoil(3, 36, w));
            Due.index("spoil(0, 37, " + w + "): the first named", () -> x.spoil(0, 37, w));
            Due.index("spoil(4, 0, " + w + "): the first named", () -> x.spoil(4, 0, w));
        }
        Due.is("spoil(0, 0, 0)", 86, () -> x.spoil(0, 0, 0));
        Due.is("isSound(0) with 0 added", true, () -> x.isSound(0));
        Due.is("spoil(0, 0, 255)", 169, () -> x.spoil(0, 0, 255));
        Due.is("spoil(0, 0, 169), itself", 0, () -> x.spoil(0, 0, 169));
    }

    private static void signNowhere() {
        OssuaryVault x = two();
        for (int w : NO_PLACE) {
            Due.index("sign(" + w + ")", () -> x.sign(w));
        }
        Due.index("sign(4) without one", () -> x.sign(4));
        x.copy(0, 15);
        int[] bytes = Rows.bytesOf(x, 0);
        int want = bytes[8] * 256 + bytes[9];
        Due.is("sign(0)", want, () -> x.sign(0));
        Due.is("sign(15)", want, () -> x.sign(15));
    }

    private static void signShort() {
        OssuaryVault x = two();
        x.cut(0, 11);
        int[] eleven = Rows.bytesOf(x, 0);
        int[] signed = Rows.join(Rows.part(eleven, 0, 8), Rows.row(eleven[10]));
        Due.is("sign(0) of 11 bytes", Rows.check(signed), () -> x.sign(0));
        x.cut(0, 10);
        Due.is("sign(0) of 10", Rows.check(Rows.part(eleven, 0, 8)), () -> x.sign(0));
        int[] nine = Rows.part(Rows.bytesOf(x, 0), 0, 9);
        x.cut(0, 9);
        Due.state("sign(0) of 9", () -> x.sign(0));
        Due.is("the 9 are as they were", Rows.text(nine), () -> Rows.text(Rows.bytesOf(x, 0)));
        x.cut(0, 0);
        Due.state("sign(0) of none", () -> x.sign(0));
    }

    private static void cutNowhere() {
        OssuaryVault x = two();
        for (int w : NO_PLACE) {
            Due.index("cut(" + w + ", 0)", () -> x.cut(w, 0));
            Due.index("cut(" + w + ", -1): the first named", () -> x.cut(w, -1));
        }
        Due.index("cut(4, 0) without one", () -> x.cut(4, 0));
        Due.index("cut(4, 1) without one: the first named", () -> x.cut(4, 1));
        x.copy(0, 15);
        Due.is("cut(15, 36)", 37, () -> x.cut(15, 36));
    }

    private static void cutWrong() {
        OssuaryVault x = two();
        for (int w : new int[] {-1, 38, MIN, MAX}) {
            Due.argument("cut(0, " + w + ")", () -> x.cut(0, w));
        }
        Due.is("sizeOf(0) behind them", 37, () -> x.sizeOf(0));
        Due.is("cut(0, 37), none is cut off", 37, () -> x.cut(0, 37));
        Due.is("isSound(0) behind it", true, () -> x.isSound(0));
        Due.is("cut(0, 36)", 37, () -> x.cut(0, 36));
        Due.argument("cut(0, 37) behind it", () -> x.cut(0, 37));
        Due.is("cut(0, 1)", 36, () -> x.cut(0, 1));
        Due.is("cut(0, 0)", 1, () -> x.cut(0, 0));
        Due.is("cut(0, 0) of none", 0, () -> x.cut(0, 0));
        Due.argument("cut(0, 1) of none", () -> x.cut(0, 1));
        Due.is("sizeOf(0), still a volume", 0, () -> x.sizeOf(0));
    }

    private static void loseNone() {
        OssuaryVault none = new OssuaryVault();
        Due.is("lose(0) without volumes", false, () -> none.lose(0));
        OssuaryVault x = two();
        x.cut(1, 0);
        Due.is("lose(0)", true, () -> x.lose(0));
        Due.is("lose(0) again", false, () -> x.lose(0));
        Due.is("lose(1) of no bytes", true, () -> x.lose(1));
        Due.is("lose(1) again", false, () -> x.lose(1));
        Due.is("lose(4)", false, () -> x.lose(4));
    }

    private static void loseNowhere() {
        OssuaryVault x = two();
        for (int w : NO_PLACE) {
            Due.index("lose(" + w + ")", () -> x.lose(w));
        }
        Due.is("present()", 4, () -> x.present());
        x.copy(0, 15);
        Due.is("lose(15)", true, () -> x.lose(15));
        Due.is("lose(0)", true, () -> x.lose(0));
    }

    private static void exchangeCounts() {
        OssuaryVault x = two();
        String first = Rows.text(Rows.bytesOf(x, 0));
        Due.is("exchange(0, 0)", 2, () -> x.exchange(0, 0));
        Due.is("what is at 0", first, () -> Rows.text(Rows.bytesOf(x, 0)));
        Due.is("exchange(0, 1)", 2, () -> x.exchange(0, 1));
        Due.is("exchange(1, 15)", 1, () -> x.exchange(1, 15));
        Due.is("exchange(1, 15) back", 1, () -> x.exchange(1, 15));
        Due.is("exchange(4, 15), none", 0, () -> x.exchange(4, 15));
        Due.is("exchange(15, 15), none", 0, () -> x.exchange(15, 15));
        x.cut(1, 0);
        Due.is("exchange(1, 4), one of no bytes", 1, () -> x.exchange(1, 4));
        Due.is("sizeOf(4)", 0, () -> x.sizeOf(4));
        Due.is("sizeOf(1)", -1, () -> x.sizeOf(1));
    }

    private static void exchangeNowhere() {
        OssuaryVault x = two();
        for (int w : NO_PLACE) {
            Due.index("exchange(" + w + ", 0)", () -> x.exchange(w, 0));
            Due.index("exchange(0, " + w + ")", () -> x.exchange(0, w));
            Due.index("exchange(" + w + ", " + w + ")", () -> x.exchange(w, w));
        }
        Due.is("numberOf(0)", 0, () -> x.numberOf(0));
        Due.is("exchange(0, 15)", 1, () -> x.exchange(0, 15));
        Due.is("exchange(15, 0)", 1, () -> x.exchange(15, 0));
    }

    private static void copyInPlace() {
        OssuaryVault x = two();
        String first = Rows.text(Rows.bytesOf(x, 0));
        Due.is("copy(0, 0)", 37, () -> x.copy(0, 0));
        Due.is("what is at 0", first, () -> Rows.text(Rows.bytesOf(x, 0)));
        Due.is("copy(0, 15), where none is", 37, () -> x.copy(0, 15));
        Due.is("what is at 15", first, () -> Rows.text(Rows.bytesOf(x, 15)));
        x.cut(3, 5);
        Due.is("copy(0, 3), over a shorter one", 37, () -> x.copy(0, 3));
        Due.is("what is at 3", first, () -> Rows.text(Rows.bytesOf(x, 3)));
        x.cut(15, 1);
        Due.is("copy(15, 3), over a longer one", 1, () -> x.copy(15, 3));
        Due.is("what is at 3 then", "[86]", () -> Rows.text(Rows.bytesOf(x, 3)));
        x.cut(15, 0);
        Due.is("copy(15, 3), no bytes", 0, () -> x.copy(15, 3));
        Due.is("sizeOf(3)", 0, () -> x.sizeOf(3));
        Due.is("copy(3, 9) of no bytes, where none is", 0, () -> x.copy(3, 9));
        Due.is("sizeOf(9)", 0, () -> x.sizeOf(9));
    }

    private static void copyNowhere() {
        OssuaryVault x = two();
        for (int w : NO_PLACE) {
            Due.index("copy(" + w + ", 0)", () -> x.copy(w, 0));
            Due.index("copy(0, " + w + ")", () -> x.copy(0, w));
        }
        Due.index("copy(4, 0) without one", () -> x.copy(4, 0));
        Due.index("copy(4, 4) without one", () -> x.copy(4, 4));
        Due.is("numberOf(0)", 0, () -> x.numberOf(0));
        Due.is("copy(0, 15)", 37, () -> x.copy(0, 15));
        Due.is("copy(15, 0)", 37, () -> x.copy(15, 0));
    }

    // ---- asking

    private static void soundNowhere() {
        OssuaryVault x = two();
        for (int w : NO_PLACE) {
            Due.index("isSound(" + w + ")", () -> x.isSound(w));
        }
        x.copy(0, 15);
        Due.is("isSound(0)", true, () -> x.isSound(0));
        Due.is("isSound(15)", true, () -> x.isSound(15));
    }

    private static void noLeader() {
        OssuaryVault none = new OssuaryVault();
        Due.is("leader() without volumes", -1, () -> none.leader());
        OssuaryVault x = new OssuaryVault();
        x.build(1, 0);
        Due.is("leader() of one", 0, () -> x.leader());
        x.spoil(0, 15, 1);
        Due.is("leader() with that one spoilt", -1, () -> x.leader());
        x.spoil(0, 15, 1);
        x.exchange(0, 15);
        Due.is("leader() at the last place", 15, () -> x.leader());
    }

    private static void noneToSixteen() {
        OssuaryVault none = new OssuaryVault();
        Due.is("present() without volumes", 0, () -> none.present());
        OssuaryVault x = ofStream(54);
        x.build(10, 6);
        Due.is("present() of 16", 16, () -> x.present());
        for (int i = 0; i < 16; i++) {
            int left = 15 - i;
            x.lose(i);
            Due.is("present() of " + left, left, () -> x.present());
        }
    }

    private static void numberOtherwise() {
        OssuaryVault x = ofStream(54);
        x.build(10, 6);
        for (int i = 0; i < 16; i++) {
            int place = i;
            Due.is("numberOf(" + place + ")", place, () -> x.numberOf(place));
        }
        x.spoil(15, 15, 1);
        Due.is("numberOf(15), spoilt", -1, () -> x.numberOf(15));
        x.lose(14);
        Due.is("numberOf(14), lost", -1, () -> x.numberOf(14));
        x.copy(0, 14);
        Due.is("numberOf(14), the second with 0", -1, () -> x.numberOf(14));
        Rows.force(x, 14, 3, 5);
        Due.is("numberOf(14), of another archive", -1, () -> x.numberOf(14));
        x.exchange(14, 0);
        Due.is("numberOf(0), the leader then", 0, () -> x.numberOf(0));
        Due.is("numberOf(14), of another archive then", -1, () -> x.numberOf(14));
    }

    private static void numberNowhere() {
        OssuaryVault x = two();
        OssuaryVault none = new OssuaryVault();
        for (int w : NO_PLACE) {
            Due.index("numberOf(" + w + ")", () -> x.numberOf(w));
            Due.index("numberOf(" + w + ") without volumes", () -> none.numberOf(w));
        }
        Due.is("numberOf(0) without volumes", -1, () -> none.numberOf(0));
        Due.is("numberOf(15)", -1, () -> x.numberOf(15));
        Due.is("numberOf(0)", 0, () -> x.numberOf(0));
    }

    private static void spareOrNot() {
        OssuaryVault none = new OssuaryVault();
        Due.is("spare() without volumes", -1, () -> none.spare());
        OssuaryVault x = ofStream(54);
        x.build(10, 6);
        for (int i = 0; i < 16; i++) {
            int want = i <= 6 ? 6 - i : -1;
            int lost = i;
            Due.is("spare() with " + lost + " lost", want, () -> x.spare());
            Due.is("open() with " + lost + " lost", want >= 0, () -> x.open() >= 0);
            x.lose(i);
        }
        Due.is("spare() with all lost", -1, () -> x.spare());
        x.build(1, 0);
        Due.is("spare() of 1 and 0", 0, () -> x.spare());
        x.build(1, 6);
        Due.is("spare() of 1 and 6", 6, () -> x.spare());
    }

    private static void repairLoses() {
        OssuaryVault x = two();
        x.open();
        for (int i = 4; i < 16; i++) {
            x.copy(0, i);
        }
        Due.is("repair()", 12, () -> x.repair());
        for (int i = 0; i < 16; i++) {
            int place = i;
            Due.is("sizeOf(" + place + ")", place < 4 ? 37 : -1, () -> x.sizeOf(place));
        }
    }

    private static void repairCounts() {
        OssuaryVault x = two();
        x.open();
        Due.is("repair() of nothing", 0, () -> x.repair());
        x.spoil(0, 0, 1);
        Due.is("repair(), the first byte", 1, () -> x.repair());
        x.spoil(3, 36, 128);
        Due.is("repair(), the last byte", 1, () -> x.repair());
        x.cut(1, 36);
        Due.is("repair() of one that is too short", 1, () -> x.repair());
        x.lose(2);
        Due.is("repair() of one that is lost", 1, () -> x.repair());
        x.cut(0, 0);
        x.exchange(0, 15);
        Due.is("repair(), no bytes at a place that has none", 2, () -> x.repair());
        Due.is("sizeOf(15)", -1, () -> x.sizeOf(15));
        x.exchange(0, 1);
        Due.is("repair() of two exchanged", 2, () -> x.repair());
        x.copy(3, 0);
        x.sign(0);
        x.lose(9);
        Due.is("repair() of one copied over", 1, () -> x.repair());
        OssuaryVault y = ofStream(54);
        y.build(10, 6);
        y.open();
        for (int i = 0; i < 16; i++) {
            y.lose(i);
        }
        Due.is("repair() of all 16", 16, () -> y.repair());
        Due.is("present()", 16, () -> y.present());
        Due.is("repair() behind it", 0, () -> y.repair());
    }

    private static void repairClosed() {
        OssuaryVault none = new OssuaryVault();
        Due.state("repair() of a new object", () -> none.repair());
        OssuaryVault x = two();
        Due.state("repair(), built but not open", () -> x.repair());
        x.open();
        Due.is("repair(), open", 0, () -> x.repair());
        Due.is("opened() behind it", 54, () -> x.opened());
        for (int i = 0; i < 3; i++) {
            x.lose(i);
        }
        Due.is("open() fails", -1, () -> x.open());
        Due.state("repair(), not open any more", () -> x.repair());
        Due.is("sizeOf(0), still lost", -1, () -> x.sizeOf(0));
    }
}
