/** The edges that the pages on the field and the desk name, and those of promises 1 to 18. */
final class DeskEdgesTest {
    private static final int MIN = Integer.MIN_VALUE;
    private static final int MAX = Integer.MAX_VALUE;
    private static final String NO_FILE =
            "Throws `IndexOutOfBoundsException` if there is no such file";
    private static final String NO_ROOM =
            "Throws `IllegalStateException` if there would be more than 240";

    public static void main(String[] args) throws Exception {
        Sentences.read();
        pages();
        field();
        sheet();
        desk();
        Sentences.end("DeskEdgesTest", 1, 18);
    }

    private static void pages() {
        Sentences.ask(0, "An object is used for at most 512 calls after it has been made",
                DeskEdgesTest::lastCall);
        Sentences.ask(0, "multiplied, and taken modulo x^8 + x^4 + x^3 + x^2 + 1.",
                DeskEdgesTest::modulo);
        Sentences.ask(0, "Each element but 0 has an inverse: with it the product is 1.",
                DeskEdgesTest::allInverses);
        Sentences.ask(0, "The sheet is a row of at most 240 bytes, at first empty.",
                DeskEdgesTest::sheetRoom);
        Sentences.ask(0, "The desk has at most 16 files", DeskEdgesTest::sixteenFiles);
        Sentences.ask(0, "each with a key, 0 to 65535", DeskEdgesTest::keys);
        Sentences.ask(0, "and a content of at most 240 bytes", DeskEdgesTest::contents);
        Sentences.ask(0, "they are in the order of their keys, the smallest first, numbered from "
                + "0.", DeskEdgesTest::order);
        Sentences.ask(0, "c = 65535; for each byte b, in order, c becomes c ^ b * 256",
                DeskEdgesTest::checkOfNothing);
        Sentences.ask(0, "c becomes c * 2, if that is less than 65536, otherwise (c * 2 - 65536) ^ "
                + "4129.", DeskEdgesTest::checkWraps);
        Sentences.ask(0, "if the same byte stands there and at the two places behind it",
                DeskEdgesTest::threeAlike);
        Sentences.ask(0, "as many of it as stand from there on, that one counted, 129 at most",
                DeskEdgesTest::mostAlike);
        Sentences.ask(0, "up to the next place at which the same byte stands three times, or the "
                + "end", DeskEdgesTest::apartUpTo);
        Sentences.ask(0, "128 at most, are told by how many they are, less 1",
                DeskEdgesTest::mostApart);
    }

    private static void field() {
        Sentences.ask(1, "Creates an empty desk, without volumes.", DeskEdgesTest::newObject);
        Sentences.ask(2, "Throws `IllegalArgumentException` if a or b is not 0 to 255",
                DeskEdgesTest::productWrong);
        Sentences.ask(3, "Throws `IllegalArgumentException` if a is not 1 to 255",
                DeskEdgesTest::inverseWrong);
        Sentences.ask(4, "Returns the product of so many of it (1 for none).",
                DeskEdgesTest::powerOfNone);
        Sentences.ask(4, "Throws `IllegalArgumentException` if a is not 0 to 255, or n is not 0 to "
                + "1000", DeskEdgesTest::powerWrong);
        Sentences.ask(5, "Throws `IndexOutOfBoundsException` if j is not 0 to 5, or d is not 0 to "
                + "9", DeskEdgesTest::coefficientWrong);
    }

    private static void sheet() {
        Sentences.ask(6, "Throws `IllegalArgumentException` if value is not 0 to 255, or times is "
                + "not 1 to 200", DeskEdgesTest::writeWrong);
        Sentences.ask(6, NO_ROOM, DeskEdgesTest::writeTooMany);
        Sentences.ask(7, "r becomes (r * 75 + 74) % 65537, the byte is r % 256.",
                DeskEdgesTest::noiseWraps);
        Sentences.ask(7, "Throws `IllegalArgumentException` if seed is not 0 to 65535, or many is "
                + "not 1 to 240", DeskEdgesTest::noiseWrong);
        Sentences.ask(7, NO_ROOM, DeskEdgesTest::noiseTooMany);
        Sentences.ask(8, "Throws `IllegalArgumentException` if many is not 0 to how many there are",
                DeskEdgesTest::cutSheetWrong);
        Sentences.ask(9, "in place of what it was; the sheet is empty behind it.",
                DeskEdgesTest::storeInPlace);
        Sentences.ask(9, "Throws `IllegalArgumentException` if key is not 0 to 65535",
                DeskEdgesTest::storeWrong);
        Sentences.ask(9, "Throws `IllegalStateException` if there are 16, and none with this key",
                DeskEdgesTest::storeOnFullDesk);
    }

    private static void desk() {
        Sentences.ask(10, "Returns the length of its content; -1 if there is none.",
                DeskEdgesTest::removeNone);
        Sentences.ask(11, "Returns how many files are on the desk.", DeskEdgesTest::noneToSixteen);
        Sentences.ask(12, NO_FILE, DeskEdgesTest::keyOfNone);
        Sentences.ask(13, NO_FILE, DeskEdgesTest::lengthOfNone);
        Sentences.ask(14, NO_FILE + ", or place in it", DeskEdgesTest::contentAtNone);
        Sentences.ask(15, NO_FILE, DeskEdgesTest::checkOfNone);
        Sentences.ask(16, NO_FILE, DeskEdgesTest::packedLengthOfNone);
        Sentences.ask(17, NO_FILE + ", or place in its packed form", DeskEdgesTest::packedAtNone);
        Sentences.ask(18, "Returns how many bytes the stream of the desk would have now.",
                DeskEdgesTest::streamOfEmptyAndFull);
    }

    /** Four files; the last of them is at 3. */
    private static OssuaryVault four() {
        OssuaryVault x = new OssuaryVault();
        Rows.storeFile(x, 0, 7);
        Rows.storeFile(x, 9, 1, 2, 3);
        x.store(500);
        Rows.storeFile(x, 65535, 4, 4, 4);
        return x;
    }

    private static OssuaryVault full() {
        OssuaryVault x = new OssuaryVault();
        for (int key = 0; key < 16; key++) {
            Rows.storeFile(x, key * 10, key);
        }
        return x;
    }

    private static OssuaryVault stored(int... content) {
        OssuaryVault x = new OssuaryVault();
        Rows.storeFile(x, 1, content);
        return x;
    }

    // ---- the pages

    private static void lastCall() {
        OssuaryVault x = new OssuaryVault();
        for (int i = 0; i < 170; i++) {
            x.noise(i, 240);
            x.store(i % 16);
            x.build(1 + i % 10, i % 7);
        }
        x.write(3, 9);
        Due.is("call 512, store(169 % 16)", 16, () -> x.store(169 % 16));
    }

    private static void modulo() {
        OssuaryVault x = new OssuaryVault();
        Due.is("product(2, 127), the greatest that needs no remainder", 254,
                () -> x.product(2, 127));
        Due.is("product(2, 128), the modulus without x^8", 29, () -> x.product(2, 128));
        Due.is("product(16, 16), x^8", 29, () -> x.product(16, 16));
        Due.is("product(128, 128), x^14", 19, () -> x.product(128, 128));
        Due.is("product(255, 255)", 226, () -> x.product(255, 255));
        Due.is("product(0, 255)", 0, () -> x.product(0, 255));
        Due.is("product(255, 0)", 0, () -> x.product(255, 0));
        Due.is("product(1, 255)", 255, () -> x.product(1, 255));
        Due.is("power(2, 254), ahead of the round", 142, () -> x.power(2, 254));
        Due.is("power(2, 255), once round", 1, () -> x.power(2, 255));
        Due.is("power(2, 256), behind it", 2, () -> x.power(2, 256));
    }

    private static int slowPower(OssuaryVault x, int a, int n) {
        int all = 1;
        for (int i = 0; i < n; i++) {
            all = x.product(all, a);
        }
        return all;
    }

    private static void allInverses() {
        OssuaryVault x = new OssuaryVault();
        for (int i = 1; i < 256; i++) {
            int a = i;
            Due.is("product of " + a + " and its inverse", 1, () -> x.product(a, x.inverse(a)));
        }
        Due.is("inverse(1)", 1, () -> x.inverse(1));
        Due.is("inverse(255)", 253, () -> x.inverse(255));
        Due.argument("inverse(0)", () -> x.inverse(0));
    }

    private static void sheetRoom() {
        OssuaryVault x = new OssuaryVault();
        Due.is("cutSheet(0) at first", 0, () -> x.cutSheet(0));
        x.write(1, 200);
        Due.is("write(2, 40), the last that have room", 240, () -> x.write(2, 40));
        Due.state("write(2, 1), one more", () -> x.write(2, 1));
        Due.is("cutSheet(240)", 240, () -> x.cutSheet(240));
    }

    private static void sixteenFiles() {
        OssuaryVault x = new OssuaryVault();
        for (int i = 1; i <= 16; i++) {
            int files = i;
            Due.is("store(" + files + ")", files, () -> x.store(files));
        }
        Due.state("store(17), one more", () -> x.store(17));
        Due.is("keyOf(15)", 16, () -> x.keyOf(15));
        Due.index("keyOf(16)", () -> x.keyOf(16));
    }

    private static void keys() {
        OssuaryVault x = new OssuaryVault();
        Due.is("store(0)", 1, () -> x.store(0));
        Due.is("store(65535)", 2, () -> x.store(65535));
        Due.argument("store(-1)", () -> x.store(-1));
        Due.argument("store(65536)", () -> x.store(65536));
        Due.is("keyOf(0)", 0, () -> x.keyOf(0));
        Due.is("keyOf(1)", 65535, () -> x.keyOf(1));
    }

    private static void contents() {
        OssuaryVault x = stored(Rows.noise(77, 240));
        Due.is("lengthOf(0), as many as there may be", 240, () -> x.lengthOf(0));
        Due.is("contentAt(0, 239)", Rows.noise(77, 240)[239], () -> x.contentAt(0, 239));
        Due.is("store(0) of none", 2, () -> x.store(0));
        Due.is("lengthOf(0) of none", 0, () -> x.lengthOf(0));
    }

    private static void order() {
        int[][] ways = {{65535, 300, 256, 255, 1, 0}, {0, 1, 255, 256, 300, 65535},
            {256, 0, 65535, 1, 300, 255}};
        int[] want = {0, 1, 255, 256, 300, 65535};
        for (int[] way : ways) {
            OssuaryVault x = new OssuaryVault();
            for (int key : way) {
                Rows.storeFile(x, key, key % 251);
            }
            for (int i = 0; i < want.length; i++) {
                int file = i;
                Due.is("keyOf(" + file + ")", want[file], () -> x.keyOf(file));
                Due.is("contentAt(" + file + ", 0)", want[file] % 251,
                        () -> x.contentAt(file, 0));
            }
        }
    }

    private static void checkOfNothing() {
        Due.is("check of nothing", 65535, () -> stored().checkOf(0));
        Due.is("check of 0", 0xE1F0, () -> stored(0).checkOf(0));
        Due.is("check of 1, 2", Rows.check(1, 2), () -> stored(1, 2).checkOf(0));
        Due.is("check of 2, 1", Rows.check(2, 1), () -> stored(2, 1).checkOf(0));
        Due.is("check of 240 times 255", Rows.check(Rows.times(255, 240)),
                () -> stored(Rows.times(255, 240)).checkOf(0));
    }

    /** With 255, c is 255 ahead of the doubling, and stays below; with 127 it is over at once. */
    private static void checkWraps() {
        Due.is("check of 255, never doubled over 65535", 65280, () -> stored(255).checkOf(0));
        for (int i = 0; i < 256; i++) {
            int b = i;
            Due.is("check of " + b, Rows.check(b), () -> stored(b).checkOf(0));
        }
        for (int i = 0; i < 256; i++) {
            int b = i;
            Due.is("check of 200, " + b, Rows.check(200, b), () -> stored(200, b).checkOf(0));
        }
    }

    private static void packs(int[] content, int... want) {
        OssuaryVault x = stored(content);
        Due.is("packed form of " + Rows.text(content), Rows.text(want),
                () -> Rows.text(Rows.packed(x, 0)));
    }

    private static void threeAlike() {
        packs(Rows.row());
        packs(Rows.row(6), 0, 6);
        packs(Rows.row(6, 6), 1, 6, 6);
        packs(Rows.row(6, 6, 6), 129, 6);
        packs(Rows.row(0, 0), 1, 0, 0);
        packs(Rows.row(6, 6, 7), 2, 6, 6, 7);
        packs(Rows.row(6, 7, 6), 2, 6, 7, 6);
        packs(Rows.row(7, 6, 6), 2, 7, 6, 6);
        int[] ahead = Rows.noise(1, 237);
        int[] all = Rows.join(ahead, Rows.row(9, 9, 9));
        packs(all, Rows.join(Rows.row(127), Rows.part(ahead, 0, 128), Rows.row(108),
                Rows.part(ahead, 128, 237), Rows.row(129, 9)));
    }

    private static void mostAlike() {
        packs(Rows.row(6, 6, 6, 6), 130, 6);
        packs(Rows.times(6, 128), 254, 6);
        packs(Rows.times(6, 129), 255, 6);
        packs(Rows.times(6, 130), 255, 6, 0, 6);
        packs(Rows.times(6, 131), 255, 6, 1, 6, 6);
        packs(Rows.times(6, 132), 255, 6, 129, 6);
        packs(Rows.times(6, 240), 255, 6, 237, 6);
        packs(Rows.join(Rows.times(6, 128), Rows.times(7, 3)), 254, 6, 129, 7);
    }

    private static void apartUpTo() {
        packs(Rows.row(1, 2, 5, 5, 5), 1, 1, 2, 129, 5);
        packs(Rows.row(1, 2, 5, 5), 3, 1, 2, 5, 5);
        packs(Rows.row(1, 1, 5, 5, 5, 5), 1, 1, 1, 130, 5);
        packs(Rows.row(1, 5, 5, 1, 5, 5, 5), 3, 1, 5, 5, 1, 129, 5);
        packs(Rows.row(5, 5, 5, 1, 2), 129, 5, 1, 1, 2);
        packs(Rows.row(5, 5, 5, 6, 6, 6), 129, 5, 129, 6);
    }

    private static void mostApart() {
        int[] apart = Rows.noise(1, 240);
        packs(Rows.part(apart, 0, 127), Rows.join(Rows.row(126), Rows.part(apart, 0, 127)));
        packs(Rows.part(apart, 0, 128), Rows.join(Rows.row(127), Rows.part(apart, 0, 128)));
        packs(Rows.part(apart, 0, 129), Rows.join(Rows.row(127), Rows.part(apart, 0, 128),
                Rows.row(0, apart[128])));
        packs(apart, Rows.join(Rows.row(127), Rows.part(apart, 0, 128), Rows.row(111),
                Rows.part(apart, 128, 240)));
        packs(Rows.join(Rows.part(apart, 0, 127), Rows.times(50, 3)),
                Rows.join(Rows.row(126), Rows.part(apart, 0, 127), Rows.row(129, 50)));
        packs(Rows.join(Rows.part(apart, 0, 128), Rows.times(50, 3)),
                Rows.join(Rows.row(127), Rows.part(apart, 0, 128), Rows.row(129, 50)));
        packs(Rows.join(Rows.part(apart, 0, 129), Rows.times(50, 3)),
                Rows.join(Rows.row(127), Rows.part(apart, 0, 128), Rows.row(0, apart[128]),
                        Rows.row(129, 50)));
    }

    // ---- the field

    private static void newObject() {
        OssuaryVault x = new OssuaryVault();
        Due.is("files()", 0, () -> x.files());
        Due.is("streamLength()", 6, () -> x.streamLength());
        for (int i = 0; i < 16; i++) {
            int place = i;
            Due.is("sizeOf(" + place + ")", -1, () -> x.sizeOf(place));
            Due.is("isSound(" + place + ")", false, () -> x.isSound(place));
            Due.is("numberOf(" + place + ")", -1, () -> x.numberOf(place));
        }
        Due.is("leader()", -1, () -> x.leader());
        Due.is("present()", 0, () -> x.present());
        Due.is("spare()", -1, () -> x.spare());
        Due.is("cost()", 0.0, () -> x.cost());
        Due.state("opened()", () -> x.opened());
        Due.is("open()", -1, () -> x.open());
        Due.is("cutSheet(0)", 0, () -> x.cutSheet(0));
    }

    private static void productWrong() {
        OssuaryVault x = new OssuaryVault();
        for (int w : new int[] {-1, 256, MIN, MAX}) {
            for (int right : new int[] {0, 1, 255, w}) {
                Due.argument("product(" + w + ", " + right + ")", () -> x.product(w, right));
                Due.argument("product(" + right + ", " + w + ")", () -> x.product(right, w));
            }
        }
        Due.is("product(0, 0)", 0, () -> x.product(0, 0));
        Due.is("product(255, 1)", 255, () -> x.product(255, 1));
    }

    private static void inverseWrong() {
        OssuaryVault x = new OssuaryVault();
        for (int w : new int[] {0, -1, 256, MIN, MAX}) {
            Due.argument("inverse(" + w + ")", () -> x.inverse(w));
        }
        Due.is("inverse(1)", 1, () -> x.inverse(1));
        Due.is("inverse(255)", 253, () -> x.inverse(255));
    }

    private static void powerOfNone() {
        OssuaryVault x = new OssuaryVault();
        for (int i = 0; i < 256; i++) {
            int a = i;
            Due.is("power(" + a + ", 0)", 1, () -> x.power(a, 0));
            Due.is("power(" + a + ", 1)", a, () -> x.power(a, 1));
            Due.is("power(" + a + ", 1000)", slowPower(x, a, 1000), () -> x.power(a, 1000));
        }
    }

    private static void powerWrong() {
        OssuaryVault x = new OssuaryVault();
        for (int w : new int[] {-1, 256, MIN, MAX}) {
            Due.argument("power(" + w + ", 0)", () -> x.power(w, 0));
            Due.argument("power(" + w + ", 1000)", () -> x.power(w, 1000));
        }
        for (int w : new int[] {-1, 1001, MIN, MAX}) {
            Due.argument("power(0, " + w + ")", () -> x.power(0, w));
            Due.argument("power(255, " + w + ")", () -> x.power(255, w));
        }
        Due.is("power(0, 0)", 1, () -> x.power(0, 0));
        Due.is("power(255, 0)", 1, () -> x.power(255, 0));
        Due.is("power(0, 1000)", 0, () -> x.power(0, 1000));
        Due.is("power(1, 1000)", 1, () -> x.power(1, 1000));
    }

    private static void coefficientWrong() {
        OssuaryVault x = new OssuaryVault();
        for (int w : new int[] {-1, MIN, MAX}) {
            Due.index("coefficient(" + w + ", 0)", () -> x.coefficient(w, 0));
            Due.index("coefficient(0, " + w + ")", () -> x.coefficient(0, w));
        }
        Due.index("coefficient(6, 0)", () -> x.coefficient(6, 0));
        Due.index("coefficient(6, 9)", () -> x.coefficient(6, 9));
        Due.index("coefficient(0, 10)", () -> x.coefficient(0, 10));
        Due.index("coefficient(5, 10)", () -> x.coefficient(5, 10));
        Due.is("coefficient(0, 0)", x.inverse(128), () -> x.coefficient(0, 0));
        Due.is("coefficient(5, 0)", x.inverse(133), () -> x.coefficient(5, 0));
        Due.is("coefficient(0, 9)", x.inverse(137), () -> x.coefficient(0, 9));
        Due.is("coefficient(5, 9)", x.inverse(140), () -> x.coefficient(5, 9));
    }

    // ---- the sheet

    private static void writeWrong() {
        OssuaryVault x = new OssuaryVault();
        for (int w : new int[] {-1, 256, MIN, MAX}) {
            Due.argument("write(" + w + ", 1)", () -> x.write(w, 1));
            Due.argument("write(" + w + ", 200)", () -> x.write(w, 200));
        }
        for (int w : new int[] {0, -1, 201, MIN, MAX}) {
            Due.argument("write(0, " + w + ")", () -> x.write(0, w));
            Due.argument("write(255, " + w + ")", () -> x.write(255, w));
        }
        Due.is("write(0, 1), behind none", 1, () -> x.write(0, 1));
        Due.is("write(255, 200)", 201, () -> x.write(255, 200));
        Due.argument("write(256, 200) with no room: the first named", () -> x.write(256, 200));
        Due.argument("write(0, 201) with no room: the first named", () -> x.write(0, 201));
        Due.is("write(255, 1)", 202, () -> x.write(255, 1));
        x.store(0);
        int[] want = Rows.join(Rows.row(0), Rows.times(255, 201));
        Due.is("what was written", Rows.text(want), () -> Rows.text(Rows.content(x, 0)));
    }

    private static void writeTooMany() {
        OssuaryVault x = new OssuaryVault();
        x.noise(1, 41);
        Due.state("write(7, 200) behind 41", () -> x.write(7, 200));
        Due.is("write(7, 199) behind 41", 240, () -> x.write(7, 199));
        Due.state("write(7, 1) behind 240", () -> x.write(7, 1));
        x.cutSheet(239);
        Due.state("write(8, 2) behind 239", () -> x.write(8, 2));
        Due.is("write(8, 1) behind 239", 240, () -> x.write(8, 1));
        x.store(0);
        int[] want = Rows.join(Rows.noise(1, 41), Rows.times(7, 198), Rows.row(8));
        Due.is("what was written", Rows.text(want), () -> Rows.text(Rows.content(x, 0)));
    }

    /** From 872 the first r is 65474; from 873 it would be 65549, so that it is taken round. */
    private static void noiseWraps() {
        int[][] firsts = {{0, 74}, {872, 65474}, {873, 12}, {65534, 65386}, {65535, 65461}};
        for (int[] f : firsts) {
            OssuaryVault x = new OssuaryVault();
            x.noise(f[0], 1);
            x.store(1);
            Due.is("the first byte of noise(" + f[0] + ", 1)", f[1] % 256, () -> x.contentAt(0, 0));
        }
        for (int seed : new int[] {0, 1, 255, 256, 872, 873, 32768, 65534, 65535}) {
            OssuaryVault x = new OssuaryVault();
            x.noise(seed, 240);
            x.store(1);
            Due.is("noise(" + seed + ", 240)", Rows.text(Rows.noise(seed, 240)),
                    () -> Rows.text(Rows.content(x, 0)));
        }
    }

    private static void noiseWrong() {
        OssuaryVault x = new OssuaryVault();
        for (int w : new int[] {-1, 65536, MIN, MAX}) {
            Due.argument("noise(" + w + ", 1)", () -> x.noise(w, 1));
            Due.argument("noise(" + w + ", 240)", () -> x.noise(w, 240));
        }
        for (int w : new int[] {0, -1, 241, MIN, MAX}) {
            Due.argument("noise(0, " + w + ")", () -> x.noise(0, w));
            Due.argument("noise(65535, " + w + ")", () -> x.noise(65535, w));
        }
        Due.is("noise(65535, 1), behind none", 1, () -> x.noise(65535, 1));
        Due.argument("noise(65536, 240) with no room: the first named", () -> x.noise(65536, 240));
        Due.argument("noise(0, 241) with no room: the first named", () -> x.noise(0, 241));
        x.cutSheet(0);
        Due.is("noise(0, 240)", 240, () -> x.noise(0, 240));
    }

    private static void noiseTooMany() {
        OssuaryVault x = new OssuaryVault();
        x.write(7, 1);
        Due.state("noise(4, 240) behind 1", () -> x.noise(4, 240));
        Due.is("noise(4, 239) behind 1", 240, () -> x.noise(4, 239));
        Due.state("noise(4, 1) behind 240", () -> x.noise(4, 1));
        x.cutSheet(239);
        Due.state("noise(5, 2) behind 239", () -> x.noise(5, 2));
        Due.is("noise(5, 1) behind 239", 240, () -> x.noise(5, 1));
        x.store(0);
        int[] want = Rows.join(Rows.row(7), Rows.noise(4, 238), Rows.noise(5, 1));
        Due.is("what was written", Rows.text(want), () -> Rows.text(Rows.content(x, 0)));
    }

    private static void cutSheetWrong() {
        OssuaryVault x = new OssuaryVault();
        Due.argument("cutSheet(1) of none", () -> x.cutSheet(1));
        Due.argument("cutSheet(-1) of none", () -> x.cutSheet(-1));
        Due.is("cutSheet(0) of none", 0, () -> x.cutSheet(0));
        x.noise(9, 240);
        for (int w : new int[] {-1, 241, MIN, MAX}) {
            Due.argument("cutSheet(" + w + ")", () -> x.cutSheet(w));
        }
        Due.is("cutSheet(240), none is cut off", 240, () -> x.cutSheet(240));
        Due.is("cutSheet(239), one is cut off", 240, () -> x.cutSheet(239));
        Due.argument("cutSheet(240) behind it", () -> x.cutSheet(240));
        Due.is("cutSheet(1)", 239, () -> x.cutSheet(1));
        x.write(3, 1);
        Due.is("cutSheet(2)", 2, () -> x.cutSheet(2));
        x.store(0);
        int[] want = {Rows.noise(9, 1)[0], 3};
        Due.is("what is left", Rows.text(want), () -> Rows.text(Rows.content(x, 0)));
        x.write(3, 200);
        Due.is("cutSheet(0)", 200, () -> x.cutSheet(0));
        Due.is("cutSheet(0) again", 0, () -> x.cutSheet(0));
    }

    private static void storeInPlace() {
        OssuaryVault x = full();
        x.noise(8, 240);
        Due.is("store(70), in place of another", 16, () -> x.store(70));
        Due.is("the sheet", 0, () -> x.cutSheet(0));
        Due.is("its content", Rows.text(Rows.noise(8, 240)), () -> Rows.text(Rows.content(x, 7)));
        Due.is("store(70), an empty sheet in place of 240 bytes", 16, () -> x.store(70));
        Due.is("lengthOf(7)", 0, () -> x.lengthOf(7));
        Due.is("checkOf(7)", 65535, () -> x.checkOf(7));
        Due.is("packedLength(7)", 0, () -> x.packedLength(7));
        Due.is("the one ahead of it", "[6]", () -> Rows.text(Rows.content(x, 6)));
        Due.is("the one behind it", "[8]", () -> Rows.text(Rows.content(x, 8)));
        Due.is("write(5, 1) on the empty sheet", 1, () -> x.write(5, 1));
    }

    private static void storeWrong() {
        OssuaryVault x = new OssuaryVault();
        OssuaryVault y = full();
        for (int w : new int[] {-1, 65536, MIN, MAX}) {
            Due.argument("store(" + w + ")", () -> x.store(w));
            Due.argument("store(" + w + ") on a full desk: the first named", () -> y.store(w));
        }
        Due.is("store(65535)", 1, () -> x.store(65535));
        Due.is("store(0)", 2, () -> x.store(0));
    }

    private static void storeOnFullDesk() {
        OssuaryVault x = full();
        x.write(200, 2);
        for (int key : new int[] {5, 151, 65535}) {
            Due.state("store(" + key + ") on a full desk", () -> x.store(key));
        }
        Due.is("store(150), the last of 16", 16, () -> x.store(150));
        Due.is("contentAt(15, 1)", 200, () -> x.contentAt(15, 1));
        Due.is("store(0), the first of 16", 16, () -> x.store(0));
        Due.is("lengthOf(0)", 0, () -> x.lengthOf(0));
        x.remove(80);
        Due.is("store(65535) as the 16th", 16, () -> x.store(65535));
        Due.state("store(80), one too many then", () -> x.store(80));
    }

    // ---- the desk

    private static void removeNone() {
        OssuaryVault none = new OssuaryVault();
        Due.is("remove(0) of an empty desk", -1, () -> none.remove(0));
        OssuaryVault x = four();
        for (int key : new int[] {-1, 1, 8, 10, 65534, 65536, 65536 + 9, MIN, MAX}) {
            Due.is("remove(" + key + ")", -1, () -> x.remove(key));
        }
        Due.is("files()", 4, () -> x.files());
        Due.is("remove(500), an empty file", 0, () -> x.remove(500));
        Due.is("remove(500) again", -1, () -> x.remove(500));
        Due.is("remove(65535), the last", 3, () -> x.remove(65535));
        Due.is("remove(0), the first", 1, () -> x.remove(0));
        Due.is("keyOf(0)", 9, () -> x.keyOf(0));
        Due.is("remove(9), the only one", 3, () -> x.remove(9));
        Due.is("files() then", 0, () -> x.files());
        OssuaryVault y = full();
        Due.is("remove(0) of 16", 1, () -> y.remove(0));
        Due.is("remove(150) of 15", 1, () -> y.remove(150));
        Due.is("keyOf(13)", 140, () -> y.keyOf(13));
        Due.index("keyOf(14)", () -> y.keyOf(14));
    }

    private static void noneToSixteen() {
        OssuaryVault none = new OssuaryVault();
        Due.is("files() at first", 0, () -> none.files());
        OssuaryVault x = full();
        Due.is("files() of a full desk", 16, () -> x.files());
        x.store(150);
        Due.is("files() with one stored in place", 16, () -> x.files());
        x.remove(20);
        x.remove(21);
        Due.is("files() with one removed", 15, () -> x.files());
    }

    private static void keyOfNone() {
        OssuaryVault none = new OssuaryVault();
        Due.index("keyOf(0) of an empty desk", () -> none.keyOf(0));
        OssuaryVault x = four();
        for (int w : new int[] {-1, 4, 15, 16, MIN, MAX}) {
            Due.index("keyOf(" + w + ")", () -> x.keyOf(w));
        }
        Due.is("keyOf(0)", 0, () -> x.keyOf(0));
        Due.is("keyOf(3)", 65535, () -> x.keyOf(3));
        x.remove(9);
        Due.index("keyOf(3) behind remove", () -> x.keyOf(3));
    }

    private static void lengthOfNone() {
        OssuaryVault none = new OssuaryVault();
        Due.index("lengthOf(0) of an empty desk", () -> none.lengthOf(0));
        OssuaryVault x = four();
        for (int w : new int[] {-1, 4, 15, 16, MIN, MAX}) {
            Due.index("lengthOf(" + w + ")", () -> x.lengthOf(w));
        }
        Due.is("lengthOf(0)", 1, () -> x.lengthOf(0));
        Due.is("lengthOf(3)", 3, () -> x.lengthOf(3));
    }

    private static void contentAtNone() {
        OssuaryVault none = new OssuaryVault();
        Due.index("contentAt(0, 0) of an empty desk", () -> none.contentAt(0, 0));
        OssuaryVault x = four();
        for (int w : new int[] {-1, 4, 15, 16, MIN, MAX}) {
            Due.index("contentAt(" + w + ", 0)", () -> x.contentAt(w, 0));
            Due.index("contentAt(1, " + w + ")", () -> x.contentAt(1, w));
        }
        Due.index("contentAt(1, 3)", () -> x.contentAt(1, 3));
        Due.index("contentAt(2, 0) of an empty file", () -> x.contentAt(2, 0));
        Due.is("contentAt(1, 0)", 1, () -> x.contentAt(1, 0));
        Due.is("contentAt(1, 2)", 3, () -> x.contentAt(1, 2));
        Due.is("contentAt(3, 2), packed into two", 4, () -> x.contentAt(3, 2));
    }

    private static void checkOfNone() {
        OssuaryVault none = new OssuaryVault();
        Due.index("checkOf(0) of an empty desk", () -> none.checkOf(0));
        OssuaryVault x = four();
        for (int w : new int[] {-1, 4, 15, 16, MIN, MAX}) {
            Due.index("checkOf(" + w + ")", () -> x.checkOf(w));
        }
        Due.is("checkOf(0)", Rows.check(7), () -> x.checkOf(0));
        Due.is("checkOf(3)", Rows.check(4, 4, 4), () -> x.checkOf(3));
    }

    private static void packedLengthOfNone() {
        OssuaryVault none = new OssuaryVault();
        Due.index("packedLength(0) of an empty desk", () -> none.packedLength(0));
        OssuaryVault x = four();
        for (int w : new int[] {-1, 4, 15, 16, MIN, MAX}) {
            Due.index("packedLength(" + w + ")", () -> x.packedLength(w));
        }
        Due.is("packedLength(0)", 2, () -> x.packedLength(0));
        Due.is("packedLength(2) of an empty file", 0, () -> x.packedLength(2));
        Due.is("packedLength(3)", 2, () -> x.packedLength(3));
        OssuaryVault longest = stored(Rows.noise(1, 240));
        Due.is("packedLength(0) of 240 bytes apart", 242, () -> longest.packedLength(0));
    }

    private static void packedAtNone() {
        OssuaryVault none = new OssuaryVault();
        Due.index("packedAt(0, 0) of an empty desk", () -> none.packedAt(0, 0));
        OssuaryVault x = four();
        for (int w : new int[] {-1, 4, 15, 16, MIN, MAX}) {
            Due.index("packedAt(" + w + ", 0)", () -> x.packedAt(w, 0));
            Due.index("packedAt(1, " + w + ")", () -> x.packedAt(1, w));
        }
        Due.index("packedAt(2, 0) of an empty file", () -> x.packedAt(2, 0));
        Due.index("packedAt(3, 2), within the content alone", () -> x.packedAt(3, 2));
        Due.is("packedAt(3, 1)", 4, () -> x.packedAt(3, 1));
        Due.is("packedAt(1, 0)", 2, () -> x.packedAt(1, 0));
        Due.is("packedAt(1, 3), behind the content's places", 3, () -> x.packedAt(1, 3));
        OssuaryVault longest = stored(Rows.noise(1, 240));
        Due.is("packedAt(0, 241)", Rows.noise(1, 240)[239], () -> longest.packedAt(0, 241));
        Due.index("packedAt(0, 242)", () -> longest.packedAt(0, 242));
    }

    private static void streamOfEmptyAndFull() {
        OssuaryVault x = new OssuaryVault();
        Due.is("streamLength() of an empty desk", 6, () -> x.streamLength());
        x.write(1, 100);
        Due.is("streamLength() with a sheet that is not stored", 6, () -> x.streamLength());
        for (int key = 0; key < 16; key++) {
            x.cutSheet(0);
            x.noise(key, 240);
            x.store(key);
        }
        Due.is("streamLength() of the fullest desk", 16 * 254 + 6, () -> x.streamLength());
        Due.is("streamLength() with an empty file", 20, () -> stored().streamLength());
        Due.is("streamLength(), the packed form as long as the content", 24,
                () -> stored(3, 3, 3, 1).streamLength());
        Due.is("streamLength(), the packed form a byte shorter", 24,
                () -> stored(3, 3, 3, 3, 1).streamLength());
        Due.is("streamLength(), the packed form longer", 22, () -> stored(3, 1).streamLength());
    }
}
