/** Promises 1 and 6 to 18. */
final class DeskTest {
    public static void main(String[] args) {
        newObject();
        write();
        noise();
        cutSheet();
        store();
        storeInPlace();
        remove();
        filesInOrder();
        noSuchFile();
        checks();
        packing();
        streamLength();
        Due.end("DeskTest");
    }

    private static void newObject() {
        OssuaryVault x = new OssuaryVault();
        Due.is("P1 files()", 0, () -> x.files());
        Due.is("P1 streamLength()", 6, () -> x.streamLength());
        Due.is("P1 cutSheet(0)", 0, () -> x.cutSheet(0));
        for (int i = 0; i < 16; i++) {
            int place = i;
            Due.is("P1 sizeOf(" + place + ")", -1, () -> x.sizeOf(place));
        }
        Due.state("P1 opened()", () -> x.opened());
        Due.is("P1 cost()", 0.0, () -> x.cost());
    }

    private static void write() {
        OssuaryVault x = new OssuaryVault();
        Due.argument("P6 write(-1, 1)", () -> x.write(-1, 1));
        Due.argument("P6 write(256, 1)", () -> x.write(256, 1));
        Due.argument("P6 write(0, 0)", () -> x.write(0, 0));
        Due.argument("P6 write(0, 201)", () -> x.write(0, 201));
        Due.argument("P6 write(0, MIN)", () -> x.write(0, Integer.MIN_VALUE));
        Due.argument("P6 write(0, MAX)", () -> x.write(0, Integer.MAX_VALUE));
        Due.is("P6 write(0, 1)", 1, () -> x.write(0, 1));
        Due.is("P6 write(255, 200)", 201, () -> x.write(255, 200));
        Due.state("P6 write(7, 40), one too many", () -> x.write(7, 40));
        Due.argument("P6 write(256, 200): the argument first", () -> x.write(256, 200));
        Due.argument("P6 write(0, 201): the argument first", () -> x.write(0, 201));
        Due.is("P6 write(7, 39), to the last", 240, () -> x.write(7, 39));
        Due.state("P6 write(7, 1) on a full sheet", () -> x.write(7, 1));
        x.store(1);
        int[] want = Rows.join(Rows.row(0), Rows.times(255, 200), Rows.times(7, 39));
        Due.is("P6 what was written", Rows.text(want), () -> Rows.text(Rows.content(x, 0)));
    }

    private static void noise() {
        OssuaryVault x = new OssuaryVault();
        Due.argument("P7 noise(-1, 1)", () -> x.noise(-1, 1));
        Due.argument("P7 noise(65536, 1)", () -> x.noise(65536, 1));
        Due.argument("P7 noise(0, 0)", () -> x.noise(0, 0));
        Due.argument("P7 noise(0, 241)", () -> x.noise(0, 241));
        Due.is("P7 noise(0, 1)", 1, () -> x.noise(0, 1));
        Due.state("P7 noise(0, 240), one too many", () -> x.noise(0, 240));
        Due.argument("P7 noise(0, 241): the argument first", () -> x.noise(0, 241));
        Due.argument("P7 noise(65536, 240): the argument first", () -> x.noise(65536, 240));
        Due.is("P7 noise(65535, 239)", 240, () -> x.noise(65535, 239));
        Due.state("P7 noise(5, 1) on a full sheet", () -> x.noise(5, 1));
        x.store(1);
        Due.is("P7 first byte", 74, () -> x.contentAt(0, 0));
        int[] want = Rows.join(Rows.noise(0, 1), Rows.noise(65535, 239));
        Due.is("P7 what was written", Rows.text(want), () -> Rows.text(Rows.content(x, 0)));
        Due.is("P7 noise(3, 240)", 240, () -> x.noise(3, 240));
    }

    private static void cutSheet() {
        OssuaryVault x = new OssuaryVault();
        Due.argument("P8 cutSheet(1) of an empty sheet", () -> x.cutSheet(1));
        x.noise(9, 10);
        Due.argument("P8 cutSheet(-1)", () -> x.cutSheet(-1));
        Due.argument("P8 cutSheet(11)", () -> x.cutSheet(11));
        Due.is("P8 cutSheet(10)", 10, () -> x.cutSheet(10));
        Due.is("P8 cutSheet(4)", 10, () -> x.cutSheet(4));
        x.write(1, 2);
        x.store(0);
        int[] want = Rows.join(Rows.noise(9, 4), Rows.row(1, 1));
        Due.is("P8 what is left", Rows.text(want), () -> Rows.text(Rows.content(x, 0)));
        x.write(1, 5);
        Due.is("P8 cutSheet(0)", 5, () -> x.cutSheet(0));
        Due.is("P8 cutSheet(0) again", 0, () -> x.cutSheet(0));
    }

    private static void store() {
        OssuaryVault x = new OssuaryVault();
        x.write(4, 4);
        Due.argument("P9 store(-1)", () -> x.store(-1));
        Due.argument("P9 store(65536)", () -> x.store(65536));
        Due.is("P9 the sheet is as it was", 4, () -> x.cutSheet(4));
        Due.is("P9 store(65535)", 1, () -> x.store(65535));
        Due.is("P9 the sheet is empty behind it", 0, () -> x.cutSheet(0));
        Due.is("P9 store(0), an empty sheet", 2, () -> x.store(0));
        for (int key = 100; key < 114; key++) {
            x.store(key);
        }
        Due.is("P11 files() of a full desk", 16, () -> x.files());
        x.write(6, 3);
        Due.state("P9 store(99) on a full desk", () -> x.store(99));
        Due.argument("P9 store(65536) on a full desk", () -> x.store(65536));
        Due.is("P9 the sheet is as it was", 3, () -> x.cutSheet(3));
        Due.is("P9 store(113) on a full desk", 16, () -> x.store(113));
        Due.is("P9 its length", 3, () -> x.lengthOf(14));
        Due.is("P9 its byte", 6, () -> x.contentAt(14, 2));
        x.remove(100);
        Due.is("P9 store(99) behind remove", 16, () -> x.store(99));
    }

    private static void storeInPlace() {
        OssuaryVault x = new OssuaryVault();
        Rows.storeFile(x, 5, 1, 2, 3, 4);
        Rows.storeFile(x, 6, 9);
        Due.is("P9 sheet for the same key", 1, () -> x.write(8, 1));
        Due.is("P9 store(5) again", 2, () -> x.store(5));
        Due.is("P9 its new content", "[8]", () -> Rows.text(Rows.content(x, 0)));
        Due.is("P9 its new packed form", "[0, 8]", () -> Rows.text(Rows.packed(x, 0)));
        Due.is("P9 its new check", Rows.check(8), () -> x.checkOf(0));
        Due.is("P9 the other", "[9]", () -> Rows.text(Rows.content(x, 1)));
    }

    private static void remove() {
        OssuaryVault x = new OssuaryVault();
        Due.is("P10 remove(0) of an empty desk", -1, () -> x.remove(0));
        Rows.storeFile(x, 5, 1, 2, 3);
        Rows.storeFile(x, 1, 4);
        Rows.storeFile(x, 9);
        Due.is("P10 remove(4)", -1, () -> x.remove(4));
        Due.is("P10 remove(-1)", -1, () -> x.remove(-1));
        Due.is("P10 remove(65536)", -1, () -> x.remove(65536));
        Due.is("P10 remove(MIN)", -1, () -> x.remove(Integer.MIN_VALUE));
        Due.is("P10 remove(MAX)", -1, () -> x.remove(Integer.MAX_VALUE));
        Due.is("P11 files()", 3, () -> x.files());
        Due.is("P10 remove(5)", 3, () -> x.remove(5));
        Due.is("P10 remove(5) again", -1, () -> x.remove(5));
        Due.is("P11 files() behind it", 2, () -> x.files());
        Due.is("P10 the first", 1, () -> x.keyOf(0));
        Due.is("P10 the second", 9, () -> x.keyOf(1));
        Due.is("P10 remove(9), an empty file", 0, () -> x.remove(9));
        Due.is("P10 remove(1)", 1, () -> x.remove(1));
        Due.is("P11 files() of none", 0, () -> x.files());
    }

    private static void filesInOrder() {
        OssuaryVault x = new OssuaryVault();
        int[] keys = {500, 3, 65535, 0, 77, 256, 255};
        int[] order = {0, 3, 77, 255, 256, 500, 65535};
        for (int key : keys) {
            Rows.storeFile(x, key, key % 256, key / 256, 7);
        }
        for (int i = 0; i < order.length; i++) {
            int file = i;
            int key = order[i];
            int[] want = {key % 256, key / 256, 7};
            Due.is("P12 keyOf(" + file + ")", key, () -> x.keyOf(file));
            Due.is("P13 lengthOf(" + file + ")", 3, () -> x.lengthOf(file));
            Due.is("P14 content of " + file, Rows.text(want),
                    () -> Rows.text(Rows.content(x, file)));
            Due.is("P15 checkOf(" + file + ")", Rows.check(want), () -> x.checkOf(file));
        }
    }

    private static void noSuchFile() {
        OssuaryVault x = new OssuaryVault();
        Rows.storeFile(x, 3, 1, 2);
        Rows.storeFile(x, 4);
        x.store(5);
        x.remove(5);
        int[] wrong = {-1, 2, 16, Integer.MIN_VALUE, Integer.MAX_VALUE};
        for (int w : wrong) {
            Due.index("P12 keyOf(" + w + ")", () -> x.keyOf(w));
            Due.index("P13 lengthOf(" + w + ")", () -> x.lengthOf(w));
            Due.index("P14 contentAt(" + w + ", 0)", () -> x.contentAt(w, 0));
            Due.index("P14 contentAt(0, " + w + ")", () -> x.contentAt(0, w));
            Due.index("P15 checkOf(" + w + ")", () -> x.checkOf(w));
            Due.index("P16 packedLength(" + w + ")", () -> x.packedLength(w));
            Due.index("P17 packedAt(" + w + ", 0)", () -> x.packedAt(w, 0));
        }
        Due.index("P14 contentAt(1, 0) of an empty file", () -> x.contentAt(1, 0));
        Due.index("P17 packedAt(0, -1)", () -> x.packedAt(0, -1));
        Due.index("P17 packedAt(0, 3)", () -> x.packedAt(0, 3));
        Due.index("P17 packedAt(1, 0) of an empty file", () -> x.packedAt(1, 0));
        Due.is("P17 packedAt(0, 2)", 2, () -> x.packedAt(0, 2));
    }

    private static void checks() {
        OssuaryVault x = new OssuaryVault();
        Rows.storeFile(x, 0, '1', '2', '3', '4', '5', '6', '7', '8', '9');
        x.store(1);
        Rows.storeFile(x, 2, Rows.noise(31, 240));
        Due.is("P15 check of 1 to 9", 0x29B1, () -> x.checkOf(0));
        Due.is("P15 check of nothing", 65535, () -> x.checkOf(1));
        Due.is("P15 check of noise", Rows.check(Rows.noise(31, 240)), () -> x.checkOf(2));
    }

    private static void packing() {
        packs(Rows.row());
        packs(Rows.row(5), 0, 5);
        packs(Rows.row(5, 5), 1, 5, 5);
        packs(Rows.row(0), 0, 0);
        packs(Rows.row(0, 0), 1, 0, 0);
        packs(Rows.row(7, 0, 0), 2, 7, 0, 0);
        packs(Rows.row(0, 0, 0, 0, 9, 0, 0), 130, 0, 2, 9, 0, 0);
        packs(Rows.row(5, 5, 5), 129, 5);
        packs(Rows.row(5, 5, 5, 6), 129, 5, 0, 6);
        packs(Rows.row(1, 2, 2, 2), 0, 1, 129, 2);
        packs(Rows.row(1, 1, 2, 2, 2, 3, 3), 1, 1, 1, 129, 2, 1, 3, 3);
        packs(Rows.row(4, 4, 4, 8, 8, 8), 129, 4, 129, 8);
        packs(Rows.times(7, 129), 255, 7);
        packs(Rows.times(7, 130), 255, 7, 0, 7);
        packs(Rows.times(7, 131), 255, 7, 1, 7, 7);
        packs(Rows.times(7, 132), 255, 7, 129, 7);
        packs(Rows.times(7, 240), 255, 7, 237, 7);
        packs(Rows.join(Rows.times(7, 130), Rows.row(8, 8, 8)), 255, 7, 0, 7, 129, 8);
        packs(Rows.join(Rows.times(0, 128), Rows.row(255)), 254, 0, 0, 255);
        int[] apart = Rows.noise(1, 240);
        packs(Rows.part(apart, 0, 128), Rows.join(Rows.row(127), Rows.part(apart, 0, 128)));
        packs(Rows.part(apart, 0, 129), Rows.join(Rows.row(127), Rows.part(apart, 0, 128),
                Rows.row(0, apart[128])));
        packs(apart, Rows.join(Rows.row(127), Rows.part(apart, 0, 128), Rows.row(111),
                Rows.part(apart, 128, 240)));
        int[] longer = Rows.part(apart, 0, 127);
        packs(Rows.join(longer, Rows.times(300 % 256, 3)),
                Rows.join(Rows.row(126), longer, Rows.row(129, 44)));
        packs(Rows.join(Rows.part(apart, 0, 128), Rows.times(44, 3)),
                Rows.join(Rows.row(127), Rows.part(apart, 0, 128), Rows.row(129, 44)));
    }

    private static void packs(int[] content, int... want) {
        OssuaryVault x = new OssuaryVault();
        Rows.storeFile(x, 7, content);
        Due.is("P16 packedLength of " + Rows.text(content), want.length, () -> x.packedLength(0));
        Due.is("P17 packed form of " + Rows.text(content), Rows.text(want),
                () -> Rows.text(Rows.packed(x, 0)));
        int stored = Math.min(content.length, want.length);
        Due.is("P18 streamLength()", 8 + stored + 6 + 6, () -> x.streamLength());
    }

    private static void streamLength() {
        OssuaryVault x = new OssuaryVault();
        x.store(4);
        Due.is("P18 with an empty file", 20, () -> x.streamLength());
        Rows.storeFile(x, 5, 1, 1, 1);
        Due.is("P18 with a packed one", 20 + 14 + 2, () -> x.streamLength());
        Rows.storeFile(x, 5, 1, 2, 3);
        Due.is("P18 with one that is not", 20 + 14 + 3, () -> x.streamLength());
        x.remove(4);
        Due.is("P18 with that one alone", 6 + 14 + 3, () -> x.streamLength());
        OssuaryVault full = new OssuaryVault();
        for (int key = 0; key < 16; key++) {
            Rows.storeFile(full, key, Rows.noise(key, 240));
        }
        Due.is("P18 the longest", 4070, () -> full.streamLength());
    }
}
