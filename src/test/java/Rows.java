import java.util.ArrayList;
import java.util.Arrays;
import java.util.List;

/** Rows of bytes as the document tells them, made without the class under test. */
final class Rows {
    private Rows() {
    }

    static int check(int... bytes) {
        int c = 65535;
        for (int b : bytes) {
            c = c ^ b * 256;
            for (int i = 0; i < 8; i++) {
                c = c * 2 < 65536 ? c * 2 : (c * 2 - 65536) ^ 4129;
            }
        }
        return c;
    }

    static int[] noise(int seed, int many) {
        int[] row = new int[many];
        int r = seed;
        for (int i = 0; i < many; i++) {
            r = (r * 75 + 74) % 65537;
            row[i] = r % 256;
        }
        return row;
    }

    static int[] times(int value, int many) {
        int[] row = new int[many];
        Arrays.fill(row, value);
        return row;
    }

    static int[] join(int[]... rows) {
        List<Integer> all = new ArrayList<>();
        for (int[] row : rows) {
            for (int b : row) {
                all.add(b);
            }
        }
        return all.stream().mapToInt(Integer::intValue).toArray();
    }

    static int[] row(int... bytes) {
        return bytes;
    }

    static int[] word(int value) {
        return row(value / 256, value % 256);
    }

    static int[] part(int[] row, int from, int end) {
        return Arrays.copyOfRange(row, from, end);
    }

    /** A file of the stream, with the content's check and the bytes as they are given. */
    static int[] file(int flag, int key, int check, int... bytes) {
        return join(row(69, flag), word(key), word(bytes.length), word(check), bytes);
    }

    static int[] tail(int count, int place, int... index) {
        return join(row(88, count), word(place), word(check(index)));
    }

    static int[] index(int... words) {
        int[] all = new int[0];
        for (int w : words) {
            all = join(all, word(w));
        }
        return all;
    }

    static int[] volume(int number, int data, int parity, int stream, int... body) {
        int n = (stream + data - 1) / data;
        int[] head = join(row(86, number, data, parity), word(n), word(stream));
        return join(head, word(check(join(head, body))), body);
    }

    static void writeOn(OssuaryVault x, int... bytes) {
        int i = 0;
        while (i < bytes.length) {
            int many = 1;
            while (i + many < bytes.length && bytes[i + many] == bytes[i] && many < 200) {
                many++;
            }
            x.write(bytes[i], many);
            i += many;
        }
    }

    static void storeFile(OssuaryVault x, int key, int... bytes) {
        writeOn(x, bytes);
        x.store(key);
    }

    static int[] packed(OssuaryVault x, int file) {
        int[] row = new int[x.packedLength(file)];
        for (int i = 0; i < row.length; i++) {
            row[i] = x.packedAt(file, i);
        }
        return row;
    }

    static int[] content(OssuaryVault x, int file) {
        int[] row = new int[x.lengthOf(file)];
        for (int i = 0; i < row.length; i++) {
            row[i] = x.contentAt(file, i);
        }
        return row;
    }

    static int[] bytesOf(OssuaryVault x, int volume) {
        int size = x.sizeOf(volume);
        int[] row = new int[Math.max(0, size)];
        for (int i = 0; i < row.length; i++) {
            row[i] = x.byteAt(volume, i);
        }
        return row;
    }

    static int[] stream(OssuaryVault x) {
        int[] row = new int[x.opened()];
        for (int i = 0; i < row.length; i++) {
            row[i] = x.streamAt(i);
        }
        return row;
    }

    static int[] contentFound(OssuaryVault x, int file) {
        int[] row = new int[Math.max(0, x.lengthFound(file))];
        for (int i = 0; i < row.length; i++) {
            row[i] = x.byteFound(file, i);
        }
        return row;
    }

    /** A full desk, and one volume whose stream is as it is wanted: not open yet. */
    static OssuaryVault forged(int... stream) {
        OssuaryVault x = new OssuaryVault();
        for (int key = 0; key < 16; key++) {
            x.noise(key, 240);
            x.store(key);
        }
        x.build(1, 0);
        x.cut(0, 10 + stream.length);
        force(x, 0, 4, join(word(stream.length), word(stream.length)));
        force(x, 0, 10, stream);
        return x;
    }

    static int[] withIndex(int[] files, int... index) {
        return join(files, withIndexAt(files.length, index));
    }

    /** An index and the six behind it, for a stream in which they stand at this place. */
    static int[] withIndexAt(int place, int... index) {
        return join(index, tail(index.length / 6, place, index));
    }

    /** Makes the bytes of a volume from a place on what is wanted, and its check right. */
    static void force(OssuaryVault x, int volume, int place, int... want) {
        for (int i = 0; i < want.length; i++) {
            x.spoil(volume, place + i, x.byteAt(volume, place + i) ^ want[i]);
        }
        x.sign(volume);
    }

    /** The digest by the other answers of the class. */
    static long digest(OssuaryVault x, boolean open) {
        long d = 2473;
        d = d * 31 + x.files();
        d = d * 31 + x.streamLength();
        for (int i = 0; i < x.files(); i++) {
            d = d * 31 + x.keyOf(i);
            d = d * 31 + x.lengthOf(i);
            d = d * 31 + x.checkOf(i);
            d = d * 31 + x.packedLength(i);
        }
        for (int i = 0; i < 16; i++) {
            d = d * 31 + x.sizeOf(i);
            d = d * 31 + (x.isSound(i) ? 1 : 0);
            d = d * 31 + x.numberOf(i);
            for (int b : bytesOf(x, i)) {
                d = d * 31 + b;
            }
        }
        d = d * 31 + x.leader();
        d = d * 31 + x.present();
        d = d * 31 + x.spare();
        d = d * 31 + (open ? 1 : 0);
        if (open) {
            d = d * 31 + x.opened();
            d = d * 31 + (x.hasIndex() ? 1 : 0);
            d = d * 31 + x.found();
            for (int i = 0; i < x.found(); i++) {
                d = d * 31 + x.keyFound(i);
                d = d * 31 + x.placeFound(i);
                d = d * 31 + (x.isGood(i) ? 1 : 0);
                d = d * 31 + x.lengthFound(i);
            }
        }
        return d;
    }

    static String text(int[] row) {
        return Arrays.toString(row);
    }
}
