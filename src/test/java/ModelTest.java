import java.lang.reflect.Method;
import java.util.ArrayList;
import java.util.HashMap;
import java.util.List;
import java.util.Map;
import java.util.Random;

/** Every promise: long runs of calls, each answered by the class as by the model. */
public final class ModelTest {
    private static final int RUNS = 300;
    private static final int CALLS = 512;
    private static final Map<String, Method> CLASS = Calls.of(OssuaryVault.class);
    private static final Map<String, Method> MODEL = Calls.of(Model.class);
    private static final List<String> NAMES = CLASS.keySet().stream().sorted().toList();

    private final Random random;
    private final OssuaryVault x = new OssuaryVault();
    private final Model model = new Model();
    private final List<String> told = new ArrayList<>();
    private final Map<String, Integer> answered;
    private boolean right = true;

    private ModelTest(int seed, Map<String, Integer> answered) {
        random = new Random(seed);
        this.answered = answered;
    }

    public static void main(String[] args) {
        int runs = args.length > 0 ? Integer.parseInt(args[0]) : RUNS;
        Map<String, Integer> answered = new HashMap<>();
        int wrong = 0;
        for (int run = 0; run < runs; run++) {
            wrong += new ModelTest(run, answered).passes(run) ? 0 : 1;
        }
        for (String name : NAMES) {
            if (answered.getOrDefault(name, 0) == 0) {
                System.out.println("no run had an answer of " + name);
                wrong++;
            }
        }
        System.out.println("ModelTest: " + runs + " runs, " + wrong + " wrong");
        if (wrong != 0) {
            System.exit(1);
        }
    }

    private boolean passes(int run) {
        while (right && told.size() < CALLS - 60) {
            step();
        }
        if (right) {
            call("digest");
        }
        if (!right) {
            System.out.println("run " + run + ": " + String.join(" ", told));
        }
        return right;
    }

    /** The answer; the least number for an exception. */
    private long call(String name, Object... args) {
        String got = Calls.answer(CLASS.get(name), x, args);
        String want = Calls.answer(MODEL.get(name), model, args);
        told.add(name + java.util.Arrays.toString(args) + "=" + got);
        if (!got.startsWith("throws")) {
            answered.merge(name, 1, Integer::sum);
        }
        if (!got.equals(want)) {
            System.out.println(told.get(told.size() - 1) + ", due is " + want);
            right = false;
        }
        return got.matches("-?\\d+") ? Long.parseLong(got) : Long.MIN_VALUE;
    }

    private int below(int n) {
        return random.nextInt(n);
    }

    private int oneOf(int... values) {
        return values[below(values.length)];
    }

    private void step() {
        switch (below(18)) {
            case 0, 1, 2 -> fileStep();
            case 3 -> call("build", dataVolumes(), parityVolumes());
            case 4 -> {
                call("open");
                call("digest");
            }
            case 5 -> loseSome();
            case 6 -> forgeHead();
            case 7 -> forgeBody();
            case 8 -> moveStep();
            case 9 -> readStep();
            case 10 -> {
                call("repair");
                call("digest");
            }
            case 11 -> call("restore");
            case 12 -> forgeTail();
            case 13 -> forgeSmall();
            default -> anyCall();
        }
    }

    private int dataVolumes() {
        return oneOf(1, 1, 2, 2, 3, 4, 5, 7, 9, 10);
    }

    private int parityVolumes() {
        return oneOf(0, 1, 2, 2, 3, 3, 4, 5, 6, 6);
    }

    private int key() {
        return oneOf(0, 1, 2, 255, 256, 257, 69, 65535, below(65536), below(20));
    }

    private void fileStep() {
        for (int pieces = below(4); pieces > 0; pieces--) {
            switch (below(4)) {
                case 0 -> call("noise", below(65536), 1 + below(60));
                case 1 -> call("noise", below(65536), 1 + below(240));
                case 2 -> call("write", oneOf(69, 88, 0, 255, below(256)), 1 + below(5));
                default -> call("write", below(256), 1 + below(200));
            }
        }
        if (below(8) == 0) {
            call("cutSheet", below(200));
        }
        call("store", key());
        if (below(12) == 0) {
            call("remove", key());
        }
    }

    private void loseSome() {
        for (int many = 1 + below(3); many > 0; many--) {
            int place = below(16);
            if (below(3) > 0) {
                call("lose", place);
            } else {
                call("spoil", place, below(60), 1 + below(255));
            }
        }
        call("spare");
    }

    private void forgeHead() {
        int place = below(16);
        int at = oneOf(0, 1, 1, 1, 2, 3, 3, 5, 7);
        long size = call("sizeOf", place);
        if (size > at) {
            long is = call("byteAt", place, at);
            int want = oneOf(0, 1, 2, 3, 4, 5, 6, 7, 10, 11, (int) is + 1 & 255);
            call("spoil", place, at, (int) is ^ want);
            call("sign", place);
            call("isSound", place);
        }
    }

    private void forgeBody() {
        int place = below(16);
        long size = call("sizeOf", place);
        if (size > 10) {
            for (int many = 1 + below(2); many > 0; many--) {
                call("spoil", place, 10 + below((int) size - 10), oneOf(1, 2, 128, below(256)));
            }
            call("sign", place);
        }
    }

    private void moveStep() {
        switch (below(3)) {
            case 0 -> call("exchange", below(16), below(16));
            case 1 -> call("copy", below(16), below(16));
            default -> {
                int place = below(16);
                call("cut", place, below(80));
                call("sign", place);
            }
        }
        call("present");
    }

    private void readStep() {
        long files = call("found");
        int file = below((int) Math.max(1, files + 1));
        call("keyFound", file);
        call("placeFound", file);
        call("isGood", file);
        long length = call("lengthFound", file);
        for (int i = 0; i < 4 && length > 0; i++) {
            call("byteFound", file, below((int) length));
        }
        call("byteFound", file, (int) length);
        call("streamAt", below(200));
    }

    /** A tail is told anew, with the right check, so that an index of another make is read. */
    private void forgeTail() {
        call("build", 1, parityVolumes());
        long size = call("sizeOf", 0);
        int tail = (int) size - 6;
        if (tail >= 16) {
            int entries = below(Math.min(45, (tail - 10) / 6) + 1);
            int from = tail - 10 - 6 * entries;
            int[] bytes = new int[6 * entries];
            for (int i = 0; i < bytes.length; i++) {
                bytes[i] = model.byteAt(0, 10 + from + i);
            }
            int[] want = Rows.tail(entries, from, bytes);
            for (int i = 1; i < 6; i++) {
                call("spoil", 0, tail + i, model.byteAt(0, tail + i) ^ want[i]);
            }
            call("sign", 0);
            call("open");
            call("hasIndex");
        }
    }

    /** A short stream of files that no desk would write. */
    private void forgeSmall() {
        call("build", 1, 0);
        int[] files = new int[0];
        for (int many = below(4); many > 0; many--) {
            int[] body = Rows.noise(below(65536), below(5));
            if (body.length > 0) {
                body[0] = oneOf(0, 1, 2, 128, 129, 130, body[0]);
            }
            int flag = oneOf(0, 0, 1, 1, 1, 2);
            int check = below(4) == 0 ? below(65536) : Rows.check(likely(flag, body));
            files = Rows.join(files, Rows.file(flag, below(4), check, body));
        }
        int most = (int) call("sizeOf", 0) - 10;
        int many = Math.min(most, files.length + below(2) - below(2));
        if (many > 0) {
            call("cut", 0, 10 + many);
            int[] head = Rows.join(Rows.word(many), Rows.word(many));
            files = Rows.join(head, Rows.row(0, 0), files, Rows.row(0, 0));
            for (int i = 0; i < 6 + many; i++) {
                if (model.byteAt(0, 4 + i) != files[i]) {
                    call("spoil", 0, 4 + i, model.byteAt(0, 4 + i) ^ files[i]);
                }
            }
            call("sign", 0);
            call("open");
            call("digest");
        }
    }

    private static int[] likely(int flag, int[] body) {
        if (flag == 1 && body.length > 1) {
            return body[0] < 128 ? Rows.part(body, 1, body.length)
                    : Rows.times(body[1], body[0] - 126);
        }
        return body;
    }

    private void anyCall() {
        String name = NAMES.get(below(NAMES.size()));
        Object[] args = new Object[CLASS.get(name).getParameterCount()];
        for (int i = 0; i < args.length; i++) {
            args[i] = argument();
        }
        call(name, args);
    }

    private int argument() {
        return switch (below(8)) {
            case 0 -> oneOf(-1, 16, 200, 201, 240, 241, 255, 256, 1000, 1001, 65535, 65536);
            case 1 -> oneOf(Integer.MIN_VALUE, Integer.MAX_VALUE, -2, -256);
            case 2 -> below(300);
            case 3 -> below(66000);
            default -> below(12);
        };
    }
}
