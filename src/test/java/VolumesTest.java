/** Promises 19 to 33. */
final class VolumesTest {
    /** The desk of {@link #small}: key 2 packed, key 258 not, key 600 empty. */
    private static final int[] SMALL = smallStream();

    public static void main(String[] args) {
        build();
        buildShapes();
        buildAnew();
        buildWrong();
        sizeAndByte();
        spoil();
        sign();
        cut();
        lose();
        exchange();
        copy();
        soundOrNot();
        soundWithoutBody();
        leaderAndPresent();
        sameNumber();
        otherArchive();
        spare();
        repair();
        repairPadding();
        Due.end("VolumesTest");
    }

    private static OssuaryVault small() {
        OssuaryVault x = new OssuaryVault();
        Rows.storeFile(x, 258, 9, 8, 7);
        Rows.storeFile(x, 2, 5, 5, 5, 5);
        x.store(600);
        return x;
    }

    private static int[] smallStream() {
        int[] files = Rows.join(Rows.file(1, 2, Rows.check(5, 5, 5, 5), 130, 5),
                Rows.file(0, 258, Rows.check(9, 8, 7), 9, 8, 7),
                Rows.file(0, 600, 65535));
        int[] index = Rows.index(2, 0, 4, 258, 10, 3, 600, 21, 0);
        return Rows.join(files, index, Rows.tail(3, 29, index));
    }

    /** The body of a volume as the document tells it, with the product as it was tested already. */
    private static int[] body(OssuaryVault x, int[] stream, int number, int data) {
        int n = (stream.length + data - 1) / data;
        int[] all = Rows.join(stream, new int[data * n - stream.length]);
        if (number < data) {
            return Rows.part(all, number * n, number * n + n);
        }
        int[] sum = new int[n];
        for (int i = 0; i < n; i++) {
            for (int d = 0; d < data; d++) {
                sum[i] ^= x.product(x.inverse((128 + number - data) ^ d), all[d * n + i]);
            }
        }
        return sum;
    }

    private static void dueVolumes(String what, OssuaryVault x, int[] stream, int data,
            int parity) {
        for (int i = 0; i < 16; i++) {
            int place = i;
            if (i < data + parity) {
                int[] want = Rows.volume(i, data, parity, stream.length, body(x, stream, i, data));
                Due.is(what + " volume " + i, Rows.text(want),
                        () -> Rows.text(Rows.bytesOf(x, place)));
            } else {
                Due.is(what + " sizeOf(" + i + ")", -1, () -> x.sizeOf(place));
            }
        }
    }

    private static void build() {
        OssuaryVault x = small();
        Due.is("P18 streamLength()", SMALL.length, () -> x.streamLength());
        Due.is("P19 build(1, 0)", SMALL.length, () -> x.build(1, 0));
        dueVolumes("P19 build(1, 0)", x, SMALL, 1, 0);
        Due.is("P19 the desk stays", 3, () -> x.files());
        Due.state("P19 none is open", () -> x.found());
        OssuaryVault empty = new OssuaryVault();
        Due.is("P19 build(10, 6) of an empty desk", 1, () -> empty.build(10, 6));
        dueVolumes("P19 empty", empty, Rows.row(88, 0, 0, 0, 255, 255), 10, 6);
    }

    private static void buildShapes() {
        OssuaryVault x = small();
        for (int data = 1; data <= 10; data++) {
            for (int parity = 0; parity <= 6; parity++) {
                int n = (SMALL.length + data - 1) / data;
                int d = data;
                int p = parity;
                Due.is("P19 build(" + d + ", " + p + ")", n, () -> x.build(d, p));
                dueVolumes("P19 build(" + d + ", " + p + ")", x, SMALL, d, p);
            }
        }
        OssuaryVault full = new OssuaryVault();
        for (int key = 0; key < 16; key++) {
            Rows.storeFile(full, key, Rows.noise(key, 240));
        }
        Due.is("P19 build(1, 6) of the longest stream", 4070, () -> full.build(1, 6));
        Due.is("P20 its sizeOf(6)", 4080, () -> full.sizeOf(6));
    }

    private static void buildAnew() {
        OssuaryVault x = small();
        x.build(10, 6);
        x.exchange(0, 15);
        x.open();
        Due.is("P19 build(2, 1) behind build(10, 6)", 27, () -> x.build(2, 1));
        dueVolumes("P19 anew", x, SMALL, 2, 1);
        Due.state("P19 closes what was open", () -> x.opened());
        Rows.storeFile(x, 7, Rows.noise(8, 200));
        x.build(2, 1);
        x.remove(7);
        Due.is("P19 build(10, 2) behind a longer stream", 6, () -> x.build(10, 2));
        dueVolumes("P19 behind a longer stream", x, SMALL, 10, 2);
    }

    private static void buildWrong() {
        OssuaryVault x = small();
        x.build(2, 1);
        x.open();
        x.write(1, 1);
        x.store(1);
        int[][] wrong = {{0, 0}, {11, 0}, {1, -1}, {1, 7}, {-1, -1},
            {Integer.MIN_VALUE, 0}, {Integer.MAX_VALUE, 6}, {1, Integer.MAX_VALUE}};
        for (int[] w : wrong) {
            Due.argument("P19 build(" + w[0] + ", " + w[1] + ")", () -> x.build(w[0], w[1]));
        }
        dueVolumes("P19 as before", x, SMALL, 2, 1);
        Due.is("P19 still open", SMALL.length, () -> x.opened());
    }

    private static void sizeAndByte() {
        OssuaryVault x = small();
        x.build(3, 1);
        Due.is("P20 sizeOf(3)", 28, () -> x.sizeOf(3));
        Due.is("P20 sizeOf(4)", -1, () -> x.sizeOf(4));
        Due.is("P20 sizeOf(15)", -1, () -> x.sizeOf(15));
        Due.is("P21 byteAt(1, 1)", 1, () -> x.byteAt(1, 1));
        Due.is("P21 byteAt(2, 26), the last of the stream", SMALL[52], () -> x.byteAt(2, 26));
        Due.is("P21 byteAt(2, 27), a 0 behind it", 0, () -> x.byteAt(2, 27));
        int[] wrong = {-1, 16, Integer.MIN_VALUE, Integer.MAX_VALUE};
        for (int w : wrong) {
            Due.index("P20 sizeOf(" + w + ")", () -> x.sizeOf(w));
            Due.index("P21 byteAt(" + w + ", 0)", () -> x.byteAt(w, 0));
        }
        Due.index("P21 byteAt(0, -1)", () -> x.byteAt(0, -1));
        Due.index("P21 byteAt(0, 28)", () -> x.byteAt(0, 28));
        Due.index("P21 byteAt(0, MAX)", () -> x.byteAt(0, Integer.MAX_VALUE));
        Due.index("P21 byteAt(4, 0) without one", () -> x.byteAt(4, 0));
    }

    private static void spoil() {
        OssuaryVault x = small();
        x.build(2, 0);
        int was = x.byteAt(1, 20);
        Due.is("P22 spoil(1, 20, 255)", was ^ 255, () -> x.spoil(1, 20, 255));
        Due.is("P22 byteAt(1, 20)", was ^ 255, () -> x.byteAt(1, 20));
        Due.is("P22 not sound then", false, () -> x.isSound(1));
        Due.is("P22 spoil(1, 20, 255) again", was, () -> x.spoil(1, 20, 255));
        Due.is("P22 sound again", true, () -> x.isSound(1));
        Due.is("P22 spoil(0, 0, 0)", 86, () -> x.spoil(0, 0, 0));
        int[] wrong = {-1, 16, Integer.MIN_VALUE, Integer.MAX_VALUE};
        for (int w : wrong) {
            Due.index("P22 spoil(" + w + ", 0, 0)", () -> x.spoil(w, 0, 0));
            Due.index("P22 spoil(" + w + ", 0, 256): the index first", () -> x.spoil(w, 0, 256));
        }
        Due.index("P22 spoil(2, 0, 0) without one", () -> x.spoil(2, 0, 0));
        Due.index("P22 spoil(2, 0, 256): the index first", () -> x.spoil(2, 0, 256));
        Due.index("P22 spoil(0, -1, 0)", () -> x.spoil(0, -1, 0));
        Due.index("P22 spoil(0, 37, 0)", () -> x.spoil(0, 37, 0));
        Due.index("P22 spoil(0, 37, -1): the index first", () -> x.spoil(0, 37, -1));
        Due.argument("P22 spoil(0, 36, -1)", () -> x.spoil(0, 36, -1));
        Due.argument("P22 spoil(0, 0, 256)", () -> x.spoil(0, 0, 256));
        dueVolumes("P22 as before", x, SMALL, 2, 0);
        x.cut(0, 0);
        Due.index("P22 spoil(0, 0, 1) of no bytes", () -> x.spoil(0, 0, 1));
    }

    private static void sign() {
        OssuaryVault x = small();
        x.build(2, 1);
        int right = x.byteAt(1, 8) * 256 + x.byteAt(1, 9);
        Due.is("P23 sign(1) of a sound one", right, () -> x.sign(1));
        x.spoil(1, 8, 77);
        x.spoil(1, 9, 99);
        Due.is("P23 sign(1) mends the check", right, () -> x.sign(1));
        dueVolumes("P23 as before", x, SMALL, 2, 1);
        x.spoil(1, 9, 1);
        Due.is("P28 isSound(1) with another check", false, () -> x.isSound(1));
        Due.is("P23 sign(1)", right, () -> x.sign(1));
        Due.is("P28 isSound(1) signed", true, () -> x.isSound(1));
        x.spoil(0, 12, 3);
        int[] bytes = Rows.bytesOf(x, 0);
        int want = Rows.check(Rows.join(Rows.part(bytes, 0, 8), Rows.part(bytes, 10, 37)));
        Due.is("P23 sign(0) with another body", want, () -> x.sign(0));
        Due.is("P23 it is sound", true, () -> x.isSound(0));
        Due.is("P23 its check stands in it", want,
                () -> x.byteAt(0, 8) * 256 + x.byteAt(0, 9));
        x.cut(2, 10);
        int[] head = Rows.part(Rows.bytesOf(x, 2), 0, 8);
        Due.is("P23 sign(2) with 10 bytes", Rows.check(head), () -> x.sign(2));
        x.cut(2, 9);
        Due.state("P23 sign(2) with 9 bytes", () -> x.sign(2));
        x.cut(2, 0);
        Due.state("P23 sign(2) with none", () -> x.sign(2));
        Due.index("P23 sign(3) without one", () -> x.sign(3));
        Due.index("P23 sign(-1)", () -> x.sign(-1));
        Due.index("P23 sign(16)", () -> x.sign(16));
    }

    private static void cut() {
        OssuaryVault x = small();
        x.build(2, 0);
        Due.argument("P24 cut(0, -1)", () -> x.cut(0, -1));
        Due.argument("P24 cut(0, 38)", () -> x.cut(0, 38));
        Due.index("P24 cut(-1, 0)", () -> x.cut(-1, 0));
        Due.index("P24 cut(16, -1): the index first", () -> x.cut(16, -1));
        Due.index("P24 cut(2, -1) without one: the index first", () -> x.cut(2, -1));
        Due.is("P24 cut(0, 37) keeps all", 37, () -> x.cut(0, 37));
        Due.is("P24 it is sound", true, () -> x.isSound(0));
        Due.is("P24 cut(0, 36)", 37, () -> x.cut(0, 36));
        Due.is("P24 it is not sound", false, () -> x.isSound(0));
        Due.is("P24 cut(0, 5)", 36, () -> x.cut(0, 5));
        Due.is("P24 what is left", "[86, 0, 2, 0, 0]", () -> Rows.text(Rows.bytesOf(x, 0)));
        Due.is("P24 cut(0, 0)", 5, () -> x.cut(0, 0));
        Due.is("P24 sizeOf(0): a volume of no bytes", 0, () -> x.sizeOf(0));
        Due.is("P24 cut(0, 0) again", 0, () -> x.cut(0, 0));
        Due.argument("P24 cut(0, 1)", () -> x.cut(0, 1));
        Due.is("P25 lose(0) of no bytes", true, () -> x.lose(0));
    }

    private static void lose() {
        OssuaryVault x = small();
        x.build(2, 0);
        Due.is("P25 lose(1)", true, () -> x.lose(1));
        Due.is("P25 lose(1) again", false, () -> x.lose(1));
        Due.is("P25 lose(15)", false, () -> x.lose(15));
        Due.is("P25 sizeOf(1)", -1, () -> x.sizeOf(1));
        Due.is("P25 sizeOf(0)", 37, () -> x.sizeOf(0));
        Due.index("P25 lose(-1)", () -> x.lose(-1));
        Due.index("P25 lose(16)", () -> x.lose(16));
    }

    private static void exchange() {
        OssuaryVault x = small();
        x.build(2, 0);
        int[] first = Rows.bytesOf(x, 0);
        int[] second = Rows.bytesOf(x, 1);
        Due.is("P26 exchange(0, 1)", 2, () -> x.exchange(0, 1));
        Due.is("P26 the first", Rows.text(second), () -> Rows.text(Rows.bytesOf(x, 0)));
        Due.is("P26 the second", Rows.text(first), () -> Rows.text(Rows.bytesOf(x, 1)));
        Due.is("P26 exchange(1, 15)", 1, () -> x.exchange(1, 15));
        Due.is("P26 sizeOf(1)", -1, () -> x.sizeOf(1));
        Due.is("P26 at 15", Rows.text(first), () -> Rows.text(Rows.bytesOf(x, 15)));
        Due.is("P26 exchange(1, 15) back", 1, () -> x.exchange(1, 15));
        Due.is("P26 exchange(4, 5), none", 0, () -> x.exchange(4, 5));
        Due.is("P26 exchange(4, 4), none", 0, () -> x.exchange(4, 4));
        Due.is("P26 exchange(0, 0)", 2, () -> x.exchange(0, 0));
        Due.is("P26 it is still there", Rows.text(second), () -> Rows.text(Rows.bytesOf(x, 0)));
        Due.index("P26 exchange(-1, 0)", () -> x.exchange(-1, 0));
        Due.index("P26 exchange(16, 0)", () -> x.exchange(16, 0));
        Due.index("P26 exchange(0, -1)", () -> x.exchange(0, -1));
        Due.index("P26 exchange(0, 16)", () -> x.exchange(0, 16));
        Due.is("P26 as before", Rows.text(second), () -> Rows.text(Rows.bytesOf(x, 0)));
    }

    private static void copy() {
        OssuaryVault x = small();
        x.build(2, 1);
        int[] first = Rows.bytesOf(x, 0);
        Due.is("P27 copy(0, 9)", 37, () -> x.copy(0, 9));
        Due.is("P27 the copy", Rows.text(first), () -> Rows.text(Rows.bytesOf(x, 9)));
        Due.is("P27 the first", Rows.text(first), () -> Rows.text(Rows.bytesOf(x, 0)));
        x.spoil(9, 0, 1);
        Due.is("P27 the first stays", Rows.text(first), () -> Rows.text(Rows.bytesOf(x, 0)));
        Due.is("P27 copy(0, 0)", 37, () -> x.copy(0, 0));
        Due.is("P27 it is as it was", Rows.text(first), () -> Rows.text(Rows.bytesOf(x, 0)));
        Due.is("P27 it is sound", true, () -> x.isSound(0));
        Due.is("P28 isSound(1)", true, () -> x.isSound(1));
        Due.is("P27 copy(9, 1) of one not sound", 37, () -> x.copy(9, 1));
        Due.is("P28 isSound(1) then", false, () -> x.isSound(1));
        Due.is("P27 copy(0, 1) of a sound one", 37, () -> x.copy(0, 1));
        Due.is("P28 isSound(1) again", true, () -> x.isSound(1));
        x.cut(9, 3);
        Due.is("P27 copy(9, 1), in place of a longer one", 3, () -> x.copy(9, 1));
        Due.is("P27 the short copy", "[87, 0, 2]", () -> Rows.text(Rows.bytesOf(x, 1)));
        x.cut(9, 0);
        Due.is("P27 copy(9, 2) of no bytes", 0, () -> x.copy(9, 2));
        Due.is("P27 sizeOf(2)", 0, () -> x.sizeOf(2));
        Due.index("P27 copy(3, 0) without one", () -> x.copy(3, 0));
        Due.index("P27 copy(-1, 0)", () -> x.copy(-1, 0));
        Due.index("P27 copy(16, 0)", () -> x.copy(16, 0));
        Due.index("P27 copy(0, -1)", () -> x.copy(0, -1));
        Due.index("P27 copy(0, 16)", () -> x.copy(0, 16));
        Due.is("P27 still as it was", Rows.text(first), () -> Rows.text(Rows.bytesOf(x, 0)));
    }

    private static void soundOrNot() {
        OssuaryVault x = small();
        x.build(2, 2);
        Due.index("P28 isSound(-1)", () -> x.isSound(-1));
        Due.index("P28 isSound(16)", () -> x.isSound(16));
        Due.is("P28 isSound(3)", true, () -> x.isSound(3));
        Due.is("P28 isSound(4) without one", false, () -> x.isSound(4));
        for (int i = 0; i < 37; i++) {
            int place = i;
            x.spoil(0, place, 128);
            Due.is("P28 with another byte " + place, false, () -> x.isSound(0));
            x.spoil(0, place, 128);
            Due.is("P28 with the right byte " + place, true, () -> x.isSound(0));
        }
        forced("the first is 87", x, false, 0, 87);
        forced("the number is 3", x, true, 1, 3);
        forced("the number is 4 = D + P", x, false, 1, 4);
        forced("D is 0", x, false, 2, 0);
        forced("D is 1: n is not as it wants it", x, false, 2, 1);
        forced("D is 3", x, false, 2, 3);
        forced("D is 10, as the stream wants it", x, true, 2, 10, 2, 0, 27, 1, 14);
        forced("D is 11, as the stream wants it", x, false, 2, 11, 2, 0, 27, 1, 41);
        forced("P is 6", x, true, 3, 6);
        forced("P is 7", x, false, 3, 7);
        forced("P is 0", x, true, 3, 0);
        forced("n is 26", x, false, 4, 0, 26);
        forced("n is 28, the stream as it wants it", x, false, 4, 0, 28, 0, 56);
        forced("n is 283: 256 more", x, false, 4, 1, 27);
        forced("the stream has 54", x, true, 6, 0, 54);
        forced("the stream has 55", x, false, 6, 0, 55);
        forced("the stream has 52", x, false, 6, 0, 52);
        x.cut(1, 36);
        x.sign(1);
        Due.is("P28 a byte too short", false, () -> x.isSound(1));
        x.cut(1, 9);
        Due.is("P28 of 9 bytes", false, () -> x.isSound(1));
        x.cut(1, 0);
        Due.is("P28 of none", false, () -> x.isSound(1));
    }

    private static void forced(String what, OssuaryVault x, boolean want, int place, int... bytes) {
        x.copy(0, 15);
        Rows.force(x, 15, place, bytes);
        Due.is("P28 " + what, want, () -> x.isSound(15));
    }

    private static void soundWithoutBody() {
        OssuaryVault x = new OssuaryVault();
        x.build(6, 0);
        x.cut(0, 10);
        Rows.force(x, 0, 2, 1, 0, 0, 0, 0, 0);
        Due.is("P28 no bytes of stream and body", true, () -> x.isSound(0));
        x.copy(0, 5);
        Rows.force(x, 5, 2, 0, 1);
        Due.is("P28 D is 0, and there is no body", false, () -> x.isSound(5));
        Rows.force(x, 5, 1, 1, 1, 1);
        Due.is("P28 a parity volume without a body", true, () -> x.isSound(5));
        x.lose(5);
        Due.is("P30 present()", 1, () -> x.present());
        Due.is("P34 open()", 0, () -> x.open());
        Due.is("P35 opened()", 0, () -> x.opened());
        Due.is("P37 hasIndex()", false, () -> x.hasIndex());
        Due.is("P38 found()", 0, () -> x.found());
        Due.index("P36 streamAt(0)", () -> x.streamAt(0));
        Due.is("P33 repair()", 4, () -> x.repair());
        Due.is("P20 sizeOf(0)", 10, () -> x.sizeOf(0));
    }

    private static void leaderAndPresent() {
        OssuaryVault x = small();
        Due.is("P29 leader() without volumes", -1, () -> x.leader());
        Due.is("P30 present() without volumes", 0, () -> x.present());
        Due.is("P31 numberOf(0) without volumes", -1, () -> x.numberOf(0));
        x.build(3, 2);
        Due.is("P29 leader()", 0, () -> x.leader());
        Due.is("P30 present()", 5, () -> x.present());
        Due.is("P31 numberOf(4)", 4, () -> x.numberOf(4));
        Due.is("P31 numberOf(5)", -1, () -> x.numberOf(5));
        x.spoil(0, 5, 1);
        Due.is("P29 leader() with 0 not sound", 1, () -> x.leader());
        Due.is("P30 present() then", 4, () -> x.present());
        Due.is("P31 numberOf(0) then", -1, () -> x.numberOf(0));
        x.exchange(4, 0);
        Due.is("P29 leader(), a parity volume", 0, () -> x.leader());
        Due.is("P31 its number", 4, () -> x.numberOf(0));
        x.exchange(0, 15);
        x.lose(1);
        x.lose(2);
        x.lose(3);
        Due.is("P29 leader() at the last place", 15, () -> x.leader());
        Due.is("P30 present() of that one", 1, () -> x.present());
        Due.is("P31 numberOf(15)", 4, () -> x.numberOf(15));
        Due.index("P31 numberOf(-1)", () -> x.numberOf(-1));
        Due.index("P31 numberOf(16)", () -> x.numberOf(16));
        x.lose(15);
        Due.is("P29 leader() without a sound one", -1, () -> x.leader());
        Due.is("P30 present() without a sound one", 0, () -> x.present());
    }

    private static void sameNumber() {
        OssuaryVault x = small();
        x.build(2, 2);
        x.copy(3, 1);
        x.copy(0, 8);
        Due.is("P30 present()", 3, () -> x.present());
        Due.is("P31 numberOf(1), the first with 3", 3, () -> x.numberOf(1));
        Due.is("P31 numberOf(3), the second with it", -1, () -> x.numberOf(3));
        Due.is("P31 numberOf(8), the second with 0", -1, () -> x.numberOf(8));
        x.lose(1);
        Due.is("P31 numberOf(3) without the first", 3, () -> x.numberOf(3));
        x.spoil(0, 20, 1);
        Due.is("P31 numberOf(8) with the first spoilt", 0, () -> x.numberOf(8));
    }

    private static void otherArchive() {
        OssuaryVault x = small();
        x.build(2, 2);
        x.copy(1, 12);
        x.copy(1, 13);
        x.copy(1, 14);
        x.copy(1, 15);
        Rows.force(x, 12, 3, 3);
        Rows.force(x, 13, 7, 54);
        Rows.force(x, 14, 2, 10, 2, 0, 27, 1, 14);
        x.lose(1);
        for (int i = 12; i < 15; i++) {
            int place = i;
            Due.is("P28 isSound(" + place + ")", true, () -> x.isSound(place));
            Due.is("P31 numberOf(" + place + ") of another", -1, () -> x.numberOf(place));
        }
        Due.is("P31 numberOf(15) of this one", 1, () -> x.numberOf(15));
        Due.is("P30 present()", 4, () -> x.present());
        x.exchange(0, 12);
        Due.is("P29 leader() of another archive", 0, () -> x.leader());
        Due.is("P30 present() of that", 1, () -> x.present());
        Due.is("P32 spare() of that", -1, () -> x.spare());
        Due.is("P34 open() of that", -1, () -> x.open());
    }

    private static void spare() {
        OssuaryVault x = small();
        Due.is("P32 spare() without volumes", -1, () -> x.spare());
        x.build(3, 2);
        Due.is("P32 spare()", 2, () -> x.spare());
        x.lose(0);
        Due.is("P32 spare() with one lost", 1, () -> x.spare());
        x.spoil(4, 20, 9);
        Due.is("P32 spare() with two", 0, () -> x.spare());
        x.cut(2, 12);
        Due.is("P32 spare() with three", -1, () -> x.spare());
        x.lose(1);
        Due.is("P32 spare() with four", -1, () -> x.spare());
        x.lose(3);
        Due.is("P32 spare() with all", -1, () -> x.spare());
        x.build(1, 0);
        Due.is("P32 spare() of one", 0, () -> x.spare());
    }

    private static void repair() {
        OssuaryVault x = small();
        Due.state("P33 repair() without an archive", () -> x.repair());
        x.build(3, 3);
        Due.state("P33 repair() unopened", () -> x.repair());
        x.open();
        Due.is("P33 repair() of whole volumes", 0, () -> x.repair());
        x.spoil(3, 0, 1);
        Due.is("P33 repair() of a first byte", 1, () -> x.repair());
        x.spoil(5, 27, 1);
        Due.is("P33 repair() of a last byte", 1, () -> x.repair());
        x.lose(0);
        x.spoil(1, 15, 1);
        x.cut(2, 0);
        x.copy(3, 15);
        x.exchange(4, 5);
        Due.is("P33 repair()", 6, () -> x.repair());
        dueVolumes("P33 repaired", x, SMALL, 3, 3);
        Due.is("P33 it stays open", SMALL.length, () -> x.opened());
        x.remove(2);
        for (int i = 0; i < 16; i++) {
            x.lose(i);
        }
        Due.is("P33 repair() of nothing", 6, () -> x.repair());
        dueVolumes("P33 of nothing", x, SMALL, 3, 3);
        x.lose(0);
        x.lose(1);
        x.lose(2);
        x.lose(3);
        Due.is("P34 open() fails", -1, () -> x.open());
        Due.state("P33 repair() behind it", () -> x.repair());
    }

    private static void repairPadding() {
        OssuaryVault x = small();
        x.build(5, 2);
        x.spoil(4, 19, 7);
        x.spoil(4, 20, 7);
        x.sign(4);
        Due.is("P34 open() with a padding that is not 0", 0, () -> x.open());
        Due.is("P33 repair() makes it 0", 1, () -> x.repair());
        dueVolumes("P33 padding", x, SMALL, 5, 2);
    }
}
