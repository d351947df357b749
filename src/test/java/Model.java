import java.util.ArrayList;
import java.util.Arrays;
import java.util.List;
import java.util.TreeMap;

/**
 * The document once more, written for nothing but likeness to its words: lists and maps instead of
 * rows, everything worked out anew at each call. ModelTest compares the class with it.
 */
public final class Model {
    private static final class Found {
        int key;
        int place;
        int told = -1;
        int[] content;
    }

    private static final class Opened {
        int data;
        int parity;
        int[] stream;
        boolean index;
        final List<Found> files = new ArrayList<>();
    }

    private final List<Integer> sheet = new ArrayList<>();
    private final TreeMap<Integer, int[]> desk = new TreeMap<>();
    private int[][] volumes = new int[16][];
    private Opened open;

    // ---- the field

    public int product(int a, int b) {
        need(in(a, 0, 255) && in(b, 0, 255));
        return times(a, b);
    }

    private static int times(int a, int b) {
        int sum = 0;
        int shifted = a;
        for (int rest = b; rest != 0; rest >>= 1) {
            sum ^= (rest & 1) * shifted;
            shifted <<= 1;
            if (shifted > 255) {
                shifted ^= 0b100011101;
            }
        }
        return sum;
    }

    public int inverse(int a) {
        need(in(a, 1, 255));
        int b = 1;
        while (times(a, b) != 1) {
            b++;
        }
        return b;
    }

    public int power(int a, int n) {
        need(in(a, 0, 255) && in(n, 0, 1000));
        int product = 1;
        for (int i = 0; i < n; i++) {
            product = times(product, a);
        }
        return product;
    }

    public int coefficient(int j, int d) {
        index(in(j, 0, 5) && in(d, 0, 9));
        return inverse((128 + j) ^ d);
    }

    // ---- the desk

    public int write(int value, int times) {
        need(in(value, 0, 255) && in(times, 1, 200));
        state(sheet.size() + times <= 240);
        for (int i = 0; i < times; i++) {
            sheet.add(value);
        }
        return sheet.size();
    }

    public int noise(int seed, int many) {
        need(in(seed, 0, 65535) && in(many, 1, 240));
        state(sheet.size() + many <= 240);
        for (int b : Rows.noise(seed, many)) {
            sheet.add(b);
        }
        return sheet.size();
    }

    public int cutSheet(int many) {
        need(in(many, 0, sheet.size()));
        int before = sheet.size();
        sheet.subList(many, before).clear();
        return before;
    }

    public int store(int key) {
        need(in(key, 0, 65535));
        state(desk.size() < 16 || desk.containsKey(key));
        desk.put(key, ints(sheet));
        sheet.clear();
        return desk.size();
    }

    public int remove(int key) {
        int[] gone = desk.remove(key);
        return gone == null ? -1 : gone.length;
    }

    public int files() {
        return desk.size();
    }

    public int keyOf(int file) {
        index(in(file, 0, desk.size() - 1));
        return new ArrayList<>(desk.keySet()).get(file);
    }

    public int lengthOf(int file) {
        return desk.get(keyOf(file)).length;
    }

    public int contentAt(int file, int place) {
        return byteIn(desk.get(keyOf(file)), place);
    }

    public int checkOf(int file) {
        return Rows.check(desk.get(keyOf(file)));
    }

    public int packedLength(int file) {
        return packed(desk.get(keyOf(file))).length;
    }

    public int packedAt(int file, int place) {
        return byteIn(packed(desk.get(keyOf(file))), place);
    }

    public int streamLength() {
        return stream().length;
    }

    private static int[] packed(int[] content) {
        List<Integer> out = new ArrayList<>();
        int from = 0;
        while (from < content.length) {
            int end = from + 1;
            if (three(content, from)) {
                while (end < content.length && content[end] == content[from] && end - from < 129) {
                    end++;
                }
                out.add(126 + end - from);
                out.add(content[from]);
            } else {
                while (end < content.length && !three(content, end) && end - from < 128) {
                    end++;
                }
                out.add(end - from - 1);
                for (int i = from; i < end; i++) {
                    out.add(content[i]);
                }
            }
            from = end;
        }
        return ints(out);
    }

    private static boolean three(int[] row, int i) {
        return i + 2 < row.length && row[i] == row[i + 1] && row[i] == row[i + 2];
    }

    private int[] stream() {
        int[] files = new int[0];
        int[] index = new int[0];
        for (int key : desk.keySet()) {
            int[] content = desk.get(key);
            int[] packed = packed(content);
            boolean shorter = packed.length < content.length;
            index = Rows.join(index, Rows.index(key, files.length, content.length));
            files = Rows.join(files, Rows.file(shorter ? 1 : 0, key, Rows.check(content),
                    shorter ? packed : content));
        }
        return Rows.join(files, index, Rows.tail(desk.size(), files.length, index));
    }

    // ---- volumes

    public int build(int data, int parity) {
        need(in(data, 1, 10) && in(parity, 0, 6));
        open = null;
        int[] stream = stream();
        volumes = made(stream, data, parity);
        return (stream.length + data - 1) / data;
    }

    private int[][] made(int[] stream, int data, int parity) {
        int[][] made = new int[16][];
        int n = (stream.length + data - 1) / data;
        int[] padded = Arrays.copyOf(stream, n * data);
        for (int v = 0; v < data + parity; v++) {
            int[] body = new int[n];
            for (int i = 0; i < n; i++) {
                for (int d = 0; d < data; d++) {
                    int one = padded[d * n + i];
                    body[i] ^= v < data ? (v == d ? one : 0) : times(coefficient(v - data, d), one);
                }
            }
            made[v] = Rows.volume(v, data, parity, stream.length, body);
        }
        return made;
    }

    public int sizeOf(int volume) {
        index(in(volume, 0, 15));
        return volumes[volume] == null ? -1 : volumes[volume].length;
    }

    private int[] volume(int volume) {
        index(in(volume, 0, 15) && volumes[volume] != null);
        return volumes[volume];
    }

    public int byteAt(int volume, int place) {
        return byteIn(volume(volume), place);
    }

    public int spoil(int volume, int place, int by) {
        byteIn(volume(volume), place);
        need(in(by, 0, 255));
        volumes[volume][place] ^= by;
        return volumes[volume][place];
    }

    public int sign(int volume) {
        int[] v = volume(volume);
        state(v.length >= 10);
        int check = Rows.check(Rows.join(Rows.part(v, 0, 8), Rows.part(v, 10, v.length)));
        v[8] = check / 256;
        v[9] = check % 256;
        return check;
    }

    public int cut(int volume, int many) {
        int[] v = volume(volume);
        need(in(many, 0, v.length));
        volumes[volume] = Rows.part(v, 0, many);
        return v.length;
    }

    public boolean lose(int volume) {
        boolean was = sizeOf(volume) >= 0;
        volumes[volume] = null;
        return was;
    }

    public int exchange(int volume, int other) {
        int there = (sizeOf(volume) >= 0 ? 1 : 0) + (sizeOf(other) >= 0 ? 1 : 0);
        int[] v = volumes[volume];
        volumes[volume] = volumes[other];
        volumes[other] = v;
        return there;
    }

    public int copy(int volume, int other) {
        int[] v = volume(volume);
        index(in(other, 0, 15));
        volumes[other] = v.clone();
        return v.length;
    }

    public boolean isSound(int volume) {
        index(in(volume, 0, 15));
        int[] v = volumes[volume];
        if (v == null || v.length < 10) {
            return false;
        }
        int n = v[4] * 256 + v[5];
        int bytes = v[6] * 256 + v[7];
        int check = Rows.check(Rows.join(Rows.part(v, 0, 8), Rows.part(v, 10, v.length)));
        return v[0] == 86 && in(v[2], 1, 10) && in(v[3], 0, 6) && v[1] < v[2] + v[3]
                && v.length == 10 + n && n == (bytes + v[2] - 1) / v[2]
                && v[8] * 256 + v[9] == check;
    }

    public int leader() {
        for (int i = 0; i < 16; i++) {
            if (isSound(i)) {
                return i;
            }
        }
        return -1;
    }

    public int present() {
        int many = 0;
        for (int i = 0; i < 16; i++) {
            many += numberOf(i) >= 0 ? 1 : 0;
        }
        return many;
    }

    public int numberOf(int volume) {
        index(in(volume, 0, 15));
        if (!isOfArchive(volume)) {
            return -1;
        }
        for (int i = 0; i < volume; i++) {
            if (isOfArchive(i) && volumes[i][1] == volumes[volume][1]) {
                return -1;
            }
        }
        return volumes[volume][1];
    }

    private boolean isOfArchive(int volume) {
        return isSound(volume) && Arrays.equals(Rows.part(volumes[volume], 2, 8),
                Rows.part(volumes[leader()], 2, 8));
    }

    public int spare() {
        int leader = leader();
        return leader < 0 ? -1 : Math.max(-1, present() - volumes[leader][2]);
    }

    public int repair() {
        state(open != null);
        int[][] made = made(open.stream, open.data, open.parity);
        int other = 0;
        for (int i = 0; i < 16; i++) {
            other += Arrays.equals(made[i], volumes[i]) ? 0 : 1;
        }
        volumes = made;
        return other;
    }

    // ---- reading

    public int open() {
        open = null;
        if (spare() < 0) {
            return -1;
        }
        int[] first = volumes[leader()];
        int data = first[2];
        int[][] byNumber = new int[16][];
        for (int i = 0; i < 16; i++) {
            if (numberOf(i) >= 0) {
                byNumber[numberOf(i)] = volumes[i];
            }
        }
        List<Integer> used = new ArrayList<>();
        int missing = 0;
        for (int v = 0; v < 16 && used.size() < data; v++) {
            if (byNumber[v] != null) {
                used.add(v);
            }
            missing += v < data && byNumber[v] == null ? 1 : 0;
        }
        Opened now = new Opened();
        now.data = data;
        now.parity = first[3];
        int[] all = solved(byNumber, used, data, first[4] * 256 + first[5]);
        now.stream = Rows.part(all, 0, first[6] * 256 + first[7]);
        read(now);
        open = now;
        return missing;
    }

    /** By elimination over the bodies themselves, with a search for each pivot. */
    private int[] solved(int[][] byNumber, List<Integer> used, int data, int n) {
        int[][] rows = new int[data][];
        for (int r = 0; r < data; r++) {
            int v = used.get(r);
            int[] weights = new int[data];
            for (int d = 0; d < data; d++) {
                weights[d] = v < data ? (v == d ? 1 : 0) : coefficient(v - data, d);
            }
            rows[r] = Rows.join(weights, Rows.part(byNumber[v], 10, 10 + n));
        }
        for (int c = 0; c < data; c++) {
            int p = c;
            while (rows[p][c] == 0) {
                p++;
            }
            int[] pivot = rows[p];
            rows[p] = rows[c];
            int by = inverse(pivot[c]);
            for (int i = 0; i < pivot.length; i++) {
                pivot[i] = times(pivot[i], by);
            }
            rows[c] = pivot;
            for (int r = 0; r < data; r++) {
                int factor = r == c ? 0 : rows[r][c];
                for (int i = 0; factor != 0 && i < pivot.length; i++) {
                    rows[r][i] ^= times(factor, pivot[i]);
                }
            }
        }
        int[] all = new int[0];
        for (int[] row : rows) {
            all = Rows.join(all, Rows.part(row, data, data + n));
        }
        return all;
    }

    private void read(Opened now) {
        int[] s = now.stream;
        int tail = s.length - 6;
        if (tail >= 0 && s[tail] == 88) {
            int from = s[tail + 2] * 256 + s[tail + 3];
            now.index = from + 6 * s[tail + 1] == tail
                    && Rows.check(Rows.part(s, from, tail)) == s[tail + 4] * 256 + s[tail + 5];
            for (int i = 0; now.index && i < s[tail + 1] && i < 40; i++) {
                Found f = new Found();
                f.key = word(s, from + 6 * i);
                f.place = word(s, from + 6 * i + 2);
                f.told = word(s, from + 6 * i + 4);
                now.files.add(f);
            }
        }
        int place = 0;
        while (!now.index && now.files.size() < 40 && lies(s, place)) {
            Found f = new Found();
            f.key = word(s, place + 2);
            f.place = place;
            now.files.add(f);
            place += 8 + word(s, place + 4);
        }
        for (Found f : now.files) {
            f.content = good(s, f);
        }
    }

    private static boolean lies(int[] s, int place) {
        return place + 8 <= s.length && s[place] == 69 && s[place + 1] < 2
                && place + 8 + word(s, place + 4) <= s.length;
    }

    /** The content of a good file; null for another. */
    private static int[] good(int[] s, Found f) {
        int p = f.place;
        if (!lies(s, p) || word(s, p + 2) != f.key) {
            return null;
        }
        int[] content = Rows.part(s, p + 8, p + 8 + word(s, p + 4));
        if (s[p + 1] == 1) {
            content = unpacked(content);
        }
        if (content == null || content.length > 240
                || f.told >= 0 && f.told != content.length
                || Rows.check(content) != word(s, p + 6)) {
            return null;
        }
        return content;
    }

    private static int[] unpacked(int[] bytes) {
        int[] content = new int[0];
        int i = 0;
        while (i < bytes.length) {
            int many = bytes[i] < 128 ? bytes[i] + 1 : bytes[i] - 126;
            int taken = bytes[i] < 128 ? 1 + many : 2;
            if (i + taken > bytes.length) {
                return null;
            }
            content = Rows.join(content, taken == 2 && bytes[i] >= 128
                    ? Rows.times(bytes[i + 1], many) : Rows.part(bytes, i + 1, i + taken));
            i += taken;
        }
        return content;
    }

    public int opened() {
        state(open != null);
        return open.stream.length;
    }

    public int streamAt(int place) {
        state(open != null);
        return byteIn(open.stream, place);
    }

    public boolean hasIndex() {
        state(open != null);
        return open.index;
    }

    public int found() {
        state(open != null);
        return open.files.size();
    }

    private Found file(int file) {
        state(open != null);
        index(in(file, 0, open.files.size() - 1));
        return open.files.get(file);
    }

    public int keyFound(int file) {
        return file(file).key;
    }

    public int placeFound(int file) {
        return file(file).place;
    }

    public boolean isGood(int file) {
        return file(file).content != null;
    }

    public int lengthFound(int file) {
        return isGood(file) ? file(file).content.length : -1;
    }

    public int byteFound(int file, int place) {
        index(isGood(file));
        return byteIn(file(file).content, place);
    }

    public int restore() {
        state(open != null);
        int put = 0;
        for (Found f : open.files) {
            if (f.content != null && (desk.size() < 16 || desk.containsKey(f.key))) {
                desk.put(f.key, f.content);
                put++;
            }
        }
        return put;
    }

    public double cost() {
        double contents = 0;
        for (int[] content : desk.values()) {
            contents += content.length;
        }
        double there = 0;
        for (int[] v : volumes) {
            there += v == null ? 0 : v.length;
        }
        return contents == 0 ? 0.0 : there / contents;
    }

    public long digest() {
        long d = 2473;
        d = d * 31 + files();
        d = d * 31 + streamLength();
        for (int i = 0; i < files(); i++) {
            d = d * 31 + keyOf(i);
            d = d * 31 + lengthOf(i);
            d = d * 31 + checkOf(i);
            d = d * 31 + packedLength(i);
        }
        for (int i = 0; i < 16; i++) {
            d = d * 31 + sizeOf(i);
            d = d * 31 + (isSound(i) ? 1 : 0);
            d = d * 31 + numberOf(i);
            for (int place = 0; place < sizeOf(i); place++) {
                d = d * 31 + byteAt(i, place);
            }
        }
        d = d * 31 + leader();
        d = d * 31 + present();
        d = d * 31 + spare();
        d = d * 31 + (open == null ? 0 : 1);
        if (open != null) {
            d = d * 31 + opened();
            d = d * 31 + (hasIndex() ? 1 : 0);
            d = d * 31 + found();
            for (int i = 0; i < found(); i++) {
                d = d * 31 + keyFound(i);
                d = d * 31 + placeFound(i);
                d = d * 31 + (isGood(i) ? 1 : 0);
                d = d * 31 + lengthFound(i);
            }
        }
        return d;
    }

    private static int word(int[] row, int place) {
        return row[place] * 256 + row[place + 1];
    }

    private static int byteIn(int[] row, int place) {
        index(in(place, 0, row.length - 1));
        return row[place];
    }

    private static int[] ints(List<Integer> list) {
        return list.stream().mapToInt(Integer::intValue).toArray();
    }

    private static boolean in(int value, int from, int to) {
        return from <= value && value <= to;
    }

    private static void need(boolean holds) {
        if (!holds) {
            throw new IllegalArgumentException();
        }
    }

    private static void state(boolean holds) {
        if (!holds) {
            throw new IllegalStateException();
        }
    }

    private static void index(boolean holds) {
        if (!holds) {
            throw new IndexOutOfBoundsException();
        }
    }
}
