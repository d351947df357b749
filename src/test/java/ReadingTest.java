/** Promises 34 to 46. */
final class ReadingTest {
    private static final int[] NINE = {9, 8, 7};
    private static final int[] FIVES = {5, 5, 5, 5};

    public static void main(String[] args) {
        notOpen();
        everyLoss();
        manyLost();
        firstParityVolumes();
        dataVolumesAreRight();
        firstOfANumber();
        longestStream();
        staysAsOpened();
        streamAt();
        indexOrNot();
        shortStreams();
        manyInIndex();
        manyWithoutIndex();
        lookingForFiles();
        goodByIndex();
        goodWithoutIndex();
        unpacking();
        tooLong();
        noSuchFile();
        restore();
        restoreOnFullDesk();
        cost();
        digest();
        Due.end("ReadingTest");
    }

    private static OssuaryVault small() {
        OssuaryVault x = new OssuaryVault();
        Rows.storeFile(x, 2, FIVES);
        Rows.storeFile(x, 258, NINE);
        x.store(600);
        return x;
    }

    private static int[] smallStream() {
        int[] files = Rows.join(fives(2), nine(258), Rows.file(0, 600, 65535));
        int[] index = Rows.index(2, 0, 4, 258, 10, 3, 600, 21, 0);
        return Rows.join(files, index, Rows.tail(3, 29, index));
    }

    private static int[] nine(int key) {
        return Rows.file(0, key, Rows.check(NINE), NINE);
    }

    private static int[] fives(int key) {
        return Rows.file(1, key, Rows.check(FIVES), 130, 5);
    }

    /** An open archive of one volume, whose stream is as it is wanted. */
    private static OssuaryVault forged(int... stream) {
        OssuaryVault x = Rows.forged(stream);
        Due.is("P34 open() of a forged stream", 0, () -> x.open());
        Due.is("P36 the forged stream", Rows.text(stream), () -> Rows.text(Rows.stream(x)));
        return x;
    }

    private static OssuaryVault forgedWithIndex(int[] files, int... index) {
        return forged(Rows.withIndex(files, index));
    }

    private static void dueFile(String what, OssuaryVault x, int file, int key, int place,
            int... content) {
        Due.is("P39 " + what + ": keyFound(" + file + ")", key, () -> x.keyFound(file));
        Due.is("P40 " + what + ": placeFound(" + file + ")", place, () -> x.placeFound(file));
        Due.is("P41 " + what + ": isGood(" + file + ")", true, () -> x.isGood(file));
        Due.is("P42 " + what + ": lengthFound(" + file + ")", content.length,
                () -> x.lengthFound(file));
        Due.is("P43 " + what + ": content found of " + file, Rows.text(content),
                () -> Rows.text(Rows.contentFound(x, file)));
    }

    private static void dueBad(String what, OssuaryVault x, int file, int key, int place) {
        Due.is("P39 " + what + ": keyFound(" + file + ")", key, () -> x.keyFound(file));
        Due.is("P40 " + what + ": placeFound(" + file + ")", place, () -> x.placeFound(file));
        Due.is("P41 " + what + ": isGood(" + file + ")", false, () -> x.isGood(file));
        Due.is("P42 " + what + ": lengthFound(" + file + ")", -1, () -> x.lengthFound(file));
        Due.index("P43 " + what + ": byteFound(" + file + ", 0)", () -> x.byteFound(file, 0));
    }

    private static void dueSmall(String what, OssuaryVault x) {
        Due.is("P36 " + what + ": the stream", Rows.text(smallStream()),
                () -> Rows.text(Rows.stream(x)));
        Due.is("P37 " + what + ": hasIndex()", true, () -> x.hasIndex());
        Due.is("P38 " + what + ": found()", 3, () -> x.found());
        dueFile(what, x, 0, 2, 0, FIVES);
        dueFile(what, x, 1, 258, 10, NINE);
        dueFile(what, x, 2, 600, 21);
    }

    private static void dueClosed(String what, OssuaryVault x) {
        Due.state("P33 " + what + ": repair()", () -> x.repair());
        Due.state("P35 " + what + ": opened()", () -> x.opened());
        Due.state("P36 " + what + ": streamAt(0)", () -> x.streamAt(0));
        Due.state("P36 " + what + ": streamAt(-1)", () -> x.streamAt(-1));
        Due.state("P37 " + what + ": hasIndex()", () -> x.hasIndex());
        Due.state("P38 " + what + ": found()", () -> x.found());
        Due.state("P39 " + what + ": keyFound(-1)", () -> x.keyFound(-1));
        Due.state("P40 " + what + ": placeFound(99)", () -> x.placeFound(99));
        Due.state("P41 " + what + ": isGood(0)", () -> x.isGood(0));
        Due.state("P42 " + what + ": lengthFound(0)", () -> x.lengthFound(0));
        Due.state("P43 " + what + ": byteFound(-1, -1)", () -> x.byteFound(-1, -1));
        Due.state("P44 " + what + ": restore()", () -> x.restore());
    }

    private static void notOpen() {
        OssuaryVault x = small();
        dueClosed("a new object", x);
        Due.is("P34 open() without volumes", -1, () -> x.open());
        dueClosed("without volumes", x);
        x.build(2, 1);
        dueClosed("built", x);
        Due.is("P34 open()", 0, () -> x.open());
        dueSmall("open", x);
        x.build(2, 1);
        dueClosed("built anew", x);
    }

    private static void everyLoss() {
        for (int lost = 0; lost < 64; lost++) {
            OssuaryVault x = small();
            x.build(3, 3);
            for (int i = 0; i < 6; i++) {
                if ((lost >> i & 1) == 1) {
                    x.lose(i);
                }
            }
            int want = Integer.bitCount(lost) > 3 ? -1 : Integer.bitCount(lost & 7);
            Due.is("P34 open() without the volumes of " + lost, want, () -> x.open());
            if (want >= 0) {
                dueSmall("without the volumes of " + lost, x);
            } else {
                dueClosed("without the volumes of " + lost, x);
            }
        }
    }

    private static void manyLost() {
        for (int round = 0; round < 40; round++) {
            OssuaryVault x = small();
            x.build(10, 6);
            int data = 0;
            for (int i = 0; i < 6; i++) {
                int place = (round * 7 + i * (1 + 2 * (round % 5))) % 16;
                boolean was = x.lose(place);
                data += was && place < 10 ? 1 : 0;
            }
            Due.is("P34 open() of 10 and 6, round " + round, data, () -> x.open());
            dueSmall("10 and 6, round " + round, x);
        }
    }

    private static void firstParityVolumes() {
        OssuaryVault x = small();
        x.build(2, 3);
        x.lose(0);
        x.spoil(3, 12, 5);
        x.sign(3);
        x.spoil(4, 12, 5);
        x.sign(4);
        Due.is("P34 open() with later parity volumes changed", 1, () -> x.open());
        dueSmall("later parity volumes changed", x);
        x.exchange(2, 9);
        x.exchange(3, 0);
        Due.is("P34 open() with the first one behind them", 1, () -> x.open());
        dueSmall("the first by numbers, not by places", x);
        x.lose(9);
        Due.is("P34 open() with the changed one", 1, () -> x.open());
        int wrong = x.product(5, x.inverse(x.coefficient(1, 0))) ^ smallStream()[2];
        Due.is("P36 the byte that makes it right", wrong, () -> x.streamAt(2));
        Due.is("P36 the byte ahead of it", 1, () -> x.streamAt(1));
    }

    private static void dataVolumesAreRight() {
        OssuaryVault x = small();
        x.build(2, 2);
        x.spoil(1, 12, 1);
        x.sign(1);
        Due.is("P34 open() with a data volume changed", 0, () -> x.open());
        Due.is("P36 its byte", smallStream()[29] ^ 1, () -> x.streamAt(29));
        x.lose(0);
        Due.is("P34 open() with the other one worked out by it", 1, () -> x.open());
        Due.is("P36 its byte still", smallStream()[29] ^ 1, () -> x.streamAt(29));
        int wrong = x.product(x.coefficient(0, 1), x.inverse(x.coefficient(0, 0)));
        Due.is("P36 the byte worked out", smallStream()[2] ^ wrong, () -> x.streamAt(2));
        x.lose(1);
        Due.is("P34 open() by the parity volumes alone", 2, () -> x.open());
        dueSmall("by the parity volumes alone", x);
    }

    private static void firstOfANumber() {
        OssuaryVault x = small();
        x.build(2, 0);
        x.copy(1, 7);
        x.spoil(1, 12, 1);
        x.sign(1);
        x.open();
        Due.is("P36 of the first with its number", smallStream()[29] ^ 1, () -> x.streamAt(29));
        x.exchange(1, 7);
        x.open();
        dueSmall("exchanged with the unchanged one", x);
    }

    private static void longestStream() {
        OssuaryVault x = new OssuaryVault();
        for (int key = 0; key < 16; key++) {
            x.noise(key, 240);
            x.store(key);
        }
        x.build(1, 0);
        Rows.force(x, 0, 2, 10);
        Rows.force(x, 0, 6, Rows.word(40700));
        for (int i = 1; i < 10; i++) {
            x.copy(0, i);
            Rows.force(x, i, 1, i);
        }
        Due.is("P34 open() of ten of the longest", 0, () -> x.open());
        Due.is("P35 opened()", 40700, () -> x.opened());
        Due.is("P36 its last byte", x.byteAt(0, 4079), () -> x.streamAt(40699));
        Due.is("P38 found()", 16, () -> x.found());
        Rows.force(x, 0, 3, 6);
        for (int i = 1; i < 10; i++) {
            Rows.force(x, i, 3, 6);
        }
        Due.is("P34 open() with six parity volumes", 0, () -> x.open());
        Due.is("P33 repair()", 6, () -> x.repair());
        for (int i = 0; i < 6; i++) {
            x.lose(i + 2);
        }
        Due.is("P34 open() by six parity volumes", 6, () -> x.open());
        Due.is("P33 repair() of six", 6, () -> x.repair());
        Due.is("P32 spare()", 6, () -> x.spare());
        Due.is("P36 the same stream", x.byteAt(0, 4079), () -> x.streamAt(40699));
        Due.index("P36 streamAt(40700)", () -> x.streamAt(40700));
    }

    private static void staysAsOpened() {
        OssuaryVault x = small();
        x.build(3, 1);
        Due.is("P34 open()", 0, () -> x.open());
        x.remove(2);
        x.remove(258);
        x.write(3, 3);
        x.spoil(0, 12, 1);
        x.exchange(1, 2);
        x.lose(1);
        x.cut(2, 4);
        x.lose(3);
        dueSmall("with all changed", x);
        Due.is("P34 open() fails", -1, () -> x.open());
        dueClosed("open() failed", x);
    }

    private static void streamAt() {
        OssuaryVault x = small();
        x.build(4, 0);
        x.open();
        Due.is("P35 opened()", 53, () -> x.opened());
        Due.is("P36 streamAt(0)", 69, () -> x.streamAt(0));
        Due.is("P36 streamAt(47)", 88, () -> x.streamAt(47));
        Due.is("P36 streamAt(52)", smallStream()[52], () -> x.streamAt(52));
        Due.index("P36 streamAt(-1)", () -> x.streamAt(-1));
        Due.index("P36 streamAt(53), in the padding", () -> x.streamAt(53));
        Due.index("P36 streamAt(MAX)", () -> x.streamAt(Integer.MAX_VALUE));
        Due.index("P36 streamAt(MIN)", () -> x.streamAt(Integer.MIN_VALUE));
    }

    private static void indexOrNot() {
        int[] files = Rows.join(fives(2), nine(258));
        int[] index = Rows.index(258, 10, 3, 2, 0, 4);
        int[] tail = Rows.tail(2, 21, index);
        OssuaryVault x = forged(Rows.join(files, index, tail));
        Due.is("P37 hasIndex()", true, () -> x.hasIndex());
        dueFile("in the index's order", x, 0, 258, 10, NINE);
        dueFile("in the index's order", x, 1, 2, 0, FIVES);
        for (int i = 0; i < 6; i++) {
            int[] other = tail.clone();
            other[i] ^= 1;
            withoutIndex("tail byte " + i, Rows.join(files, index, other));
        }
        int[] otherIndex = index.clone();
        otherIndex[7] ^= 1;
        withoutIndex("an index byte", Rows.join(files, otherIndex, tail));
        withoutIndex("a byte more", Rows.join(files, index, Rows.row(0), tail));
        withoutIndex("a byte behind it", Rows.join(files, index, tail, Rows.row(0)));
        withoutIndex("an index too late", Rows.join(files, index, Rows.tail(1, 21, index)));
        withoutIndex("an index too early", Rows.join(files, index, Rows.tail(3, 21, index)));
        OssuaryVault part = forged(Rows.join(files, index, Rows.tail(1, 27,
                Rows.part(index, 6, 12))));
        Due.is("P37 an index of one", true, () -> part.hasIndex());
        Due.is("P38 found() by it", 1, () -> part.found());
        dueFile("an index of one", part, 0, 2, 0, FIVES);
        OssuaryVault none = forged(Rows.join(files, index, Rows.tail(0, 33)));
        Due.is("P37 an index of none", true, () -> none.hasIndex());
        Due.is("P38 found() by it", 0, () -> none.found());
        Due.index("P39 keyFound(0)", () -> none.keyFound(0));
    }

    private static void withoutIndex(String what, int[] stream) {
        OssuaryVault x = forged(stream);
        Due.is("P37 hasIndex() with " + what, false, () -> x.hasIndex());
        Due.is("P38 found() with " + what, 2, () -> x.found());
        dueFile(what, x, 0, 2, 0, FIVES);
        dueFile(what, x, 1, 258, 10, NINE);
    }

    private static void shortStreams() {
        OssuaryVault five = forged(0, 0, 0, 255, 255);
        Due.is("P37 hasIndex() of five bytes", false, () -> five.hasIndex());
        OssuaryVault six = forged(88, 0, 0, 0, 255, 255);
        Due.is("P37 hasIndex() of six", true, () -> six.hasIndex());
        Due.is("P38 found() of six", 0, () -> six.found());
        OssuaryVault one = forged(69);
        Due.is("P38 found() of a 69 alone", 0, () -> one.found());
        OssuaryVault seven = forged(69, 0, 0, 1, 0, 0, 255);
        Due.is("P38 found() of a head cut off", 0, () -> seven.found());
        OssuaryVault eight = forged(69, 0, 0, 1, 0, 0, 255, 255);
        Due.is("P38 found() of a head", 1, () -> eight.found());
        dueFile("a head alone", eight, 0, 1, 0);
    }

    private static void manyInIndex() {
        int[] index = new int[0];
        for (int i = 0; i < 45; i++) {
            index = Rows.join(index, Rows.index(i == 3 ? 8 : 7, 0, 3));
        }
        OssuaryVault x = forgedWithIndex(nine(7), index);
        Due.is("P37 hasIndex() of 45", true, () -> x.hasIndex());
        Due.is("P38 found() of 45", 40, () -> x.found());
        dueFile("of 45", x, 0, 7, 0, NINE);
        dueBad("of 45", x, 3, 8, 0);
        dueFile("of 45", x, 39, 7, 0, NINE);
        Due.index("P39 keyFound(40) of 45", () -> x.keyFound(40));
        Due.is("P44 restore() of 45", 39, () -> x.restore());
        int[] exact = Rows.part(index, 0, 240);
        OssuaryVault y = forgedWithIndex(nine(7), exact);
        Due.is("P38 found() of 40", 40, () -> y.found());
    }

    private static void manyWithoutIndex() {
        int[] files = new int[0];
        for (int i = 0; i < 45; i++) {
            files = Rows.join(files, nine(i));
        }
        OssuaryVault x = forged(files);
        Due.is("P37 hasIndex()", false, () -> x.hasIndex());
        Due.is("P38 found() of 45", 40, () -> x.found());
        dueFile("of 45", x, 39, 39, 39 * 11, NINE);
        Due.index("P39 keyFound(40)", () -> x.keyFound(40));
        OssuaryVault y = forged(Rows.part(files, 0, 440));
        Due.is("P38 found() of 40", 40, () -> y.found());
        OssuaryVault z = forged(Rows.part(files, 0, 439));
        Due.is("P38 found() of 39 and one cut off", 39, () -> z.found());
    }

    private static void lookingForFiles() {
        OssuaryVault x = forged(Rows.join(nine(1), Rows.row(70), nine(2)));
        Due.is("P38 found() up to what is no 69", 1, () -> x.found());
        OssuaryVault late = forged(Rows.join(Rows.row(0), nine(1)));
        Due.is("P38 found() with no 69 at 0", 0, () -> late.found());
        int[] flag = nine(2);
        flag[1] = 2;
        OssuaryVault y = forged(Rows.join(nine(1), flag, nine(3)));
        Due.is("P38 found() up to a flag 2", 1, () -> y.found());
        int[] bad = nine(2);
        bad[10] ^= 1;
        OssuaryVault z = forged(Rows.join(nine(1), bad, nine(3), Rows.row(69, 0, 0)));
        Due.is("P38 found() past a file that is not good", 3, () -> z.found());
        dueFile("past it", z, 0, 1, 0, NINE);
        dueBad("past it", z, 1, 2, 11);
        dueFile("past it", z, 2, 3, 22, NINE);
        Due.is("P34 open() again", 0, () -> z.open());
        Due.is("P38 found() again", 3, () -> z.found());
        int[] cutOff = nine(4);
        cutOff[5] = 4;
        OssuaryVault w = forged(Rows.join(nine(1), cutOff));
        Due.is("P38 found() with a file a byte too long", 1, () -> w.found());
        OssuaryVault twice = forged(Rows.join(nine(65535), nine(0), nine(65535)));
        Due.is("P38 found() in any order", 3, () -> twice.found());
        dueFile("in any order", twice, 2, 65535, 22, NINE);
    }

    private static void goodByIndex() {
        int[] files = Rows.join(fives(2), nine(258));
        int[] index = Rows.index(2, 0, 4, 258, 10, 3, 259, 10, 3, 258, 10, 4, 2, 0, 2,
                258, 11, 3, 0, 65535, 0, 258, 200, 3, 2, 0, 4);
        OssuaryVault x = forgedWithIndex(files, index);
        Due.is("P37 hasIndex()", true, () -> x.hasIndex());
        dueFile("as it is", x, 0, 2, 0, FIVES);
        dueFile("as it is", x, 1, 258, 10, NINE);
        dueBad("another key", x, 2, 259, 10);
        dueBad("another length", x, 3, 258, 10);
        dueBad("the packed length", x, 4, 2, 0);
        dueBad("no 69 there", x, 5, 258, 11);
        dueBad("behind the stream", x, 6, 0, 65535);
        dueBad("behind the stream too", x, 7, 258, 200);
        dueFile("told twice", x, 8, 2, 0, FIVES);
        OssuaryVault none = forgedWithIndex(Rows.join(files, Rows.file(0, 4, 65535)),
                Rows.index(258, 10, 0, 4, 21, 0, 4, 21, 1));
        dueBad("told to be empty", none, 0, 258, 10);
        dueFile("told to be empty", none, 1, 4, 21);
        dueBad("told not to be empty", none, 2, 4, 21);
        int[] flag = nine(258);
        flag[1] = 2;
        OssuaryVault y = forgedWithIndex(flag, Rows.index(258, 0, 3));
        Due.is("P38 found() by an index", 1, () -> y.found());
        dueBad("flag 2 by an index", y, 0, 258, 0);
        int[] spoilt = nine(258);
        spoilt[9] ^= 4;
        OssuaryVault z = forgedWithIndex(Rows.join(Rows.row(1, 2), spoilt),
                Rows.index(258, 2, 3));
        dueBad("check of another content", z, 0, 258, 2);
        int[] longer = nine(258);
        longer[5] = 16;
        OssuaryVault w = forgedWithIndex(longer, Rows.index(258, 0, 16));
        dueBad("a file a byte beyond the stream", w, 0, 258, 0);
        longer[5] = 15;
        int[] all = Rows.join(NINE, Rows.index(258, 0, 15));
        OssuaryVault within = forgedWithIndex(longer, Rows.index(258, 0, 15));
        int[] stream = Rows.stream(within);
        Due.is("P41 a file up to the end of the stream, with another check", false,
                () -> within.isGood(0));
        Due.is("P36 it reaches into the index", Rows.text(all),
                () -> Rows.text(Rows.part(stream, 8, 17)));
    }

    private static void goodWithoutIndex() {
        int[] last = Rows.file(0, 5, Rows.check(), new int[0]);
        OssuaryVault x = forged(Rows.join(nine(1), last, Rows.row(1)));
        dueFile("an empty one", x, 1, 5, 11);
        int[] flagged = Rows.file(1, 6, Rows.check(), new int[0]);
        OssuaryVault y = forged(flagged);
        dueFile("an empty one, packed", y, 0, 6, 0);
        OssuaryVault z = forged(Rows.file(0, 6, Rows.check() ^ 1));
        dueBad("an empty one with another check", z, 0, 6, 0);
        OssuaryVault w = forged(Rows.file(0, 6, Rows.check(NINE) ^ 256, NINE));
        dueBad("another check", w, 0, 6, 0);
    }

    private static void unpacking() {
        unpacks(Rows.row(128, 4), 4, 4);
        unpacks(Rows.row(129, 4), 4, 4, 4);
        unpacks(Rows.row(255, 4), Rows.times(4, 129));
        unpacks(Rows.row(0, 4), 4);
        unpacks(Rows.row(2, 4, 4, 4), 4, 4, 4);
        unpacks(Rows.row(0, 1, 0, 2, 128, 1, 128, 1), 1, 2, 1, 1, 1, 1);
        unpacks(Rows.join(Rows.row(127), Rows.noise(5, 128)), Rows.noise(5, 128));
        unpacks(Rows.join(Rows.row(127), Rows.noise(5, 128), Rows.row(111), Rows.noise(6, 112)),
                Rows.join(Rows.noise(5, 128), Rows.noise(6, 112)));
        unpacks(Rows.row(255, 9, 237, 8), Rows.join(Rows.times(9, 129), Rows.times(8, 111)));
        doesNotUnpack("a run's head alone", Rows.row(128));
        doesNotUnpack("a stretch's head alone", Rows.row(0));
        doesNotUnpack("a stretch cut off", Rows.row(2, 1, 1));
        doesNotUnpack("a stretch cut off behind a run", Rows.row(129, 3, 1, 7));
        doesNotUnpack("a run cut off behind a run", Rows.row(129, 3, 129));
    }

    private static void unpacks(int[] packed, int... content) {
        OssuaryVault x = forged(Rows.file(1, 77, Rows.check(content), packed));
        dueFile("unpacked " + Rows.text(packed), x, 0, 77, 0, content);
        OssuaryVault y = forgedWithIndex(Rows.file(1, 77, Rows.check(content), packed),
                Rows.index(77, 0, content.length));
        dueFile("unpacked by an index " + Rows.text(packed), y, 0, 77, 0, content);
    }

    /** Whichever content were taken for it, its check is among those that are tried. */
    private static void doesNotUnpack(String what, int[] packed) {
        int[][] contents = {{}, {0}, {0, 0}, {1, 1}, {1, 1, 1}, {1, 1, 0}, {1, 1, 12},
            {3, 3, 3}, {3, 3, 3, 7}, {3, 3, 3, 7, 0}, {3, 3, 3, 0, 0, 0}, {12}, {12, 12}};
        for (int[] content : contents) {
            int[] file = Rows.file(1, 77, Rows.check(content), packed);
            OssuaryVault x = forged(Rows.join(file, Rows.row(12)));
            Due.is("P38 found() of " + what, 1, () -> x.found());
            dueBad(what, x, 0, 77, 0);
        }
    }

    private static void tooLong() {
        int[] full = Rows.noise(5, 240);
        OssuaryVault x = forged(Rows.file(0, 1, Rows.check(full), full));
        dueFile("240 bytes", x, 0, 1, 0, full);
        int[] longer = Rows.noise(5, 241);
        OssuaryVault y = forged(Rows.file(0, 1, Rows.check(longer), longer));
        Due.is("P38 found() of 241 bytes", 1, () -> y.found());
        dueBad("241 bytes", y, 0, 1, 0);
        OssuaryVault byIndex = forgedWithIndex(Rows.file(0, 1, Rows.check(longer), longer),
                Rows.index(1, 0, 241));
        dueBad("241 bytes by an index", byIndex, 0, 1, 0);
        OssuaryVault cut = forged(Rows.file(0, 1, Rows.check(full), longer));
        dueBad("241 bytes with the check of 240", cut, 0, 1, 0);
        OssuaryVault again = forged(Rows.join(nine(1), new int[300]));
        dueFile("as it was before", again, 0, 1, 0, NINE);
        Rows.force(again, 0, 10 + 5, 241);
        Due.is("P34 open() with its length changed", 0, () -> again.open());
        dueBad("241 bytes where a good file was", again, 0, 1, 0);
        int[] run = Rows.times(3, 241);
        OssuaryVault z = forged(Rows.file(1, 1, Rows.check(run), 255, 3, 238, 3));
        dueBad("241 bytes unpacked", z, 0, 1, 0);
        int[] piece = Rows.join(Rows.row(127), Rows.part(longer, 0, 128), Rows.row(112),
                Rows.part(longer, 128, 241));
        OssuaryVault w = forged(Rows.file(1, 1, Rows.check(longer), piece));
        dueBad("241 bytes unpacked from stretches", w, 0, 1, 0);
        int[] ahead = Rows.join(piece, Rows.row(0, 1));
        OssuaryVault v = forged(Rows.file(1, 1, Rows.check(full), ahead));
        dueBad("242 bytes unpacked with the check of 240", v, 0, 1, 0);
        int[] wide = new int[0];
        for (int i = 0; i < 240; i++) {
            wide = Rows.join(wide, Rows.row(0, full[i]));
        }
        OssuaryVault u = forged(Rows.file(1, 1, Rows.check(full), wide));
        dueFile("240 bytes packed into 480", u, 0, 1, 0, full);
    }

    private static void noSuchFile() {
        OssuaryVault x = small();
        x.build(2, 0);
        x.open();
        int[] wrong = {-1, 3, 39, 40, Integer.MIN_VALUE, Integer.MAX_VALUE};
        for (int w : wrong) {
            Due.index("P39 keyFound(" + w + ")", () -> x.keyFound(w));
            Due.index("P40 placeFound(" + w + ")", () -> x.placeFound(w));
            Due.index("P41 isGood(" + w + ")", () -> x.isGood(w));
            Due.index("P42 lengthFound(" + w + ")", () -> x.lengthFound(w));
            Due.index("P43 byteFound(" + w + ", 0)", () -> x.byteFound(w, 0));
        }
        Due.is("P43 byteFound(1, 2)", 7, () -> x.byteFound(1, 2));
        Due.index("P43 byteFound(1, 3)", () -> x.byteFound(1, 3));
        Due.index("P43 byteFound(1, -1)", () -> x.byteFound(1, -1));
        Due.index("P43 byteFound(2, 0) of an empty file", () -> x.byteFound(2, 0));
        x.lose(0);
        x.open();
        Due.state("P43 byteFound(1, 3) when it is not open", () -> x.byteFound(1, 3));
    }

    private static void restore() {
        OssuaryVault x = small();
        x.build(2, 0);
        x.spoil(0, 28, 1);
        x.sign(0);
        x.open();
        Due.is("P41 isGood(1), spoilt", false, () -> x.isGood(1));
        x.remove(2);
        x.remove(600);
        Rows.storeFile(x, 600, 1, 2);
        Rows.storeFile(x, 7, 3);
        x.write(4, 4);
        Due.is("P44 restore()", 2, () -> x.restore());
        Due.is("P11 files()", 4, () -> x.files());
        Due.is("P44 keyOf(0)", 2, () -> x.keyOf(0));
        Due.is("P44 its content", Rows.text(FIVES), () -> Rows.text(Rows.content(x, 0)));
        Due.is("P44 its packed form", "[130, 5]", () -> Rows.text(Rows.packed(x, 0)));
        Due.is("P44 its check", Rows.check(FIVES), () -> x.checkOf(0));
        Due.is("P44 the file that was there", "[3]", () -> Rows.text(Rows.content(x, 1)));
        Due.is("P44 that of the key not good", Rows.text(NINE),
                () -> Rows.text(Rows.content(x, 2)));
        Due.is("P44 in place of one with its key", 0, () -> x.lengthOf(3));
        Due.is("P44 the sheet is as it was", 4, () -> x.cutSheet(4));
        Due.is("P44 it stays open", 53, () -> x.opened());
        Due.is("P44 restore() again", 2, () -> x.restore());
        int[] two = {6, 6};
        OssuaryVault twice = forged(Rows.join(nine(20), fives(3),
                Rows.file(0, 20, Rows.check(two), two)));
        twice.remove(0);
        twice.remove(1);
        Due.is("P44 restore(), a key that comes twice", 3, () -> twice.restore());
        Due.is("P44 files(), one key there already", 15, () -> twice.files());
        Due.is("P44 the later one stays", Rows.text(two),
                () -> Rows.text(Rows.content(twice, 14)));
    }

    private static void restoreOnFullDesk() {
        OssuaryVault x = forged(Rows.join(nine(100), nine(15), nine(101), nine(0)));
        Due.is("P44 restore() on a full desk", 2, () -> x.restore());
        Due.is("P44 files()", 16, () -> x.files());
        Due.is("P44 keyOf(15)", 15, () -> x.keyOf(15));
        Due.is("P44 put in place", Rows.text(NINE), () -> Rows.text(Rows.content(x, 15)));
        Due.is("P44 put in place too", Rows.text(NINE), () -> Rows.text(Rows.content(x, 0)));
        Due.is("P44 the others stay", 240, () -> x.lengthOf(7));
        x.remove(5);
        Due.is("P44 restore() with room for one", 3, () -> x.restore());
        Due.is("P44 the first of both", 100, () -> x.keyOf(15));
    }

    private static void cost() {
        OssuaryVault x = new OssuaryVault();
        Due.is("P45 cost() of nothing", 0.0, () -> x.cost());
        x.store(1);
        x.build(2, 2);
        Due.is("P45 cost() without contents", 0.0, () -> x.cost());
        Rows.storeFile(x, 2, NINE);
        Due.is("P45 cost() by what is there", 4 * 20 / 3.0, () -> x.cost());
        x.build(3, 1);
        Due.is("P45 cost()", 4 * 23 / 3.0, () -> x.cost());
        Rows.storeFile(x, 1, 5);
        Due.is("P45 cost() with another file", 4 * 23 / 4.0, () -> x.cost());
        x.remove(2);
        Due.is("P45 cost() with a byte alone", 4 * 23 / 1.0, () -> x.cost());
        x.remove(1);
        Due.is("P45 cost() with no file", 0.0, () -> x.cost());
        Rows.storeFile(x, 2, NINE);
        x.cut(0, 5);
        x.copy(0, 9);
        x.lose(1);
        Due.is("P45 cost() of what is left", (5 + 5 + 2 * 23) / 3.0, () -> x.cost());
        for (int i = 0; i < 16; i++) {
            x.lose(i);
        }
        Due.is("P45 cost() without volumes", 0.0, () -> x.cost());
    }

    private static void digest() {
        OssuaryVault x = new OssuaryVault();
        Due.is("P46 digest() of a new object", Rows.digest(x, false), () -> x.digest());
        OssuaryVault first = small();
        first.build(2, 1);
        OssuaryVault second = small();
        second.build(2, 1);
        Due.is("P46 digest() ahead of all questions", Rows.digest(first, false),
                () -> second.digest());
        Rows.storeFile(x, 2, FIVES);
        Rows.storeFile(x, 65535, Rows.noise(4, 200));
        Due.is("P46 digest() with files", Rows.digest(x, false), () -> x.digest());
        x.build(3, 2);
        Due.is("P46 digest() built", Rows.digest(x, false), () -> x.digest());
        x.lose(0);
        x.spoil(1, 12, 1);
        x.cut(1, 20);
        x.copy(2, 15);
        Due.is("P46 digest() with losses", Rows.digest(x, false), () -> x.digest());
        Due.is("P34 open()", 2, () -> x.open());
        Due.is("P46 digest() open", Rows.digest(x, true), () -> x.digest());
        Due.is("P46 digest() again", Rows.digest(x, true), () -> x.digest());
        x.lose(3);
        Due.is("P34 open() fails", -1, () -> x.open());
        Due.is("P46 digest() not open", Rows.digest(x, false), () -> x.digest());
        OssuaryVault y = forged(Rows.join(nine(1), Rows.file(0, 9, 0, 1, 2), fives(8)));
        Due.is("P46 digest() without an index", Rows.digest(y, true), () -> y.digest());
    }
}
