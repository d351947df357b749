import java.lang.reflect.Method;
import java.util.ArrayList;
import java.util.Arrays;
import java.util.LinkedHashMap;
import java.util.List;
import java.util.Map;
import java.util.TreeSet;
import java.util.function.Supplier;

/** "A method that throws an exception changes nothing." Every method, in objects of many states. */
final class RefusedTest {
    private static final int[] EDGES = {Integer.MIN_VALUE, -1, 0, 1, 10, 15, 16, 36, 37, 240, 241,
        255, 256, 1001, 65536, Integer.MAX_VALUE};
    private static final Map<String, Method> FACE = Calls.of(OssuaryVault.class);
    private static final TreeSet<String> REFUSED = new TreeSet<>();

    private record Call(String name, Object[] args) {
        String on(OssuaryVault x) {
            return Calls.answer(FACE.get(name), x, args);
        }

        @Override
        public String toString() {
            return name + Arrays.toString(args);
        }
    }

    public static void main(String[] args) throws Exception {
        Sentences.read();
        Sentences.ask(0, "A method that throws an exception changes nothing.", () -> {
            changesNothing("a new object", OssuaryVault::new);
            changesNothing("an open archive", RefusedTest::open);
            changesNothing("a full desk", RefusedTest::full);
            changesNothing("volumes lost and cut", RefusedTest::broken);
            changesNothing("an archive without an index", RefusedTest::withoutIndex);
            Due.is("every method that can refuse did so", canRefuse().toString(),
                    () -> REFUSED.toString());
        });
        Due.end("RefusedTest");
    }

    private static TreeSet<String> canRefuse() {
        TreeSet<String> all = new TreeSet<>();
        for (Method m : FACE.values()) {
            if (m.getExceptionTypes().length > 0) {
                all.add(m.getName());
            }
        }
        return all;
    }

    private static OssuaryVault open() {
        OssuaryVault x = new OssuaryVault();
        Rows.storeFile(x, 1, 9, 8, 7);
        Rows.storeFile(x, 16, 5, 5, 5, 5);
        x.store(255);
        x.build(2, 2);
        x.noise(4, 41);
        x.open();
        x.lose(1);
        return x;
    }

    private static OssuaryVault full() {
        OssuaryVault x = new OssuaryVault();
        for (int key = 0; key < 16; key++) {
            Rows.storeFile(x, key * 17, Rows.noise(key, 240));
        }
        x.noise(4, 240);
        x.build(10, 6);
        return x;
    }

    private static OssuaryVault broken() {
        OssuaryVault x = open();
        x.build(3, 3);
        x.open();
        x.cut(0, 9);
        x.cut(1, 0);
        x.spoil(2, 12, 1);
        x.lose(3);
        x.copy(4, 15);
        x.open();
        return x;
    }

    private static OssuaryVault withoutIndex() {
        int[] bad = Rows.file(0, 2, 0, 1, 2, 3);
        OssuaryVault x = Rows.forged(Rows.join(Rows.file(0, 1, Rows.check(7), 7), bad));
        x.write(8, 200);
        x.open();
        x.spoil(0, 12, 1);
        return x;
    }

    /** All refused calls are made on one object, which is then to be as one that had none. */
    private static void changesNothing(String state, Supplier<OssuaryVault> made) {
        Map<Call, String> refused = refused(made);
        OssuaryVault x = made.get();
        String before = seen(x);
        for (Call call : refused.keySet()) {
            REFUSED.add(call.name());
            Due.is(state + ": " + call + " again", refused.get(call), () -> call.on(x));
            Due.is(state + ": what is seen behind " + call, before, () -> seen(x));
        }
        Due.is(state + ": the sheet behind all", sheet(made.get()), () -> sheet(x));
    }

    /** What each refused call throws; behind one that is not refused the object is made anew. */
    private static Map<Call, String> refused(Supplier<OssuaryVault> made) {
        Map<Call, String> all = new LinkedHashMap<>();
        OssuaryVault x = made.get();
        for (String name : canRefuse()) {
            for (Call call : calls(name)) {
                String answer = call.on(x);
                if (answer.startsWith("throws.")) {
                    all.put(call, answer);
                } else if (!name.matches("product|inverse|power|coefficient")) {
                    x = made.get();
                }
            }
        }
        return all;
    }

    private static List<Call> calls(String name) {
        int many = FACE.get(name).getParameterCount();
        List<Call> all = new ArrayList<>();
        int ways = 1;
        for (int i = 0; i < many; i++) {
            ways *= EDGES.length;
        }
        for (int way = 0; way < ways; way++) {
            Object[] args = new Object[many];
            int rest = way;
            for (int i = 0; i < many; i++) {
                args[i] = EDGES[rest % EDGES.length];
                rest /= EDGES.length;
            }
            all.add(new Call(name, args));
        }
        return all;
    }

    /** All that can be asked without a change, but the single bytes of what the digest sums up. */
    private static String seen(OssuaryVault x) {
        StringBuilder all = new StringBuilder();
        all.append(x.digest()).append(' ').append(x.cost());
        for (int file = 0; file < x.files(); file++) {
            all.append(Rows.text(Rows.content(x, file))).append(Rows.text(Rows.packed(x, file)));
        }
        if (!Due.told(() -> x.opened()).startsWith("throws.")) {
            all.append(Rows.text(Rows.stream(x)));
            for (int file = 0; file < x.found(); file++) {
                all.append(Rows.text(Rows.contentFound(x, file)));
            }
        }
        return all.toString();
    }

    private static String sheet(OssuaryVault x) {
        if (x.files() == 16) {
            x.remove(x.keyOf(15));
        }
        x.store(65535);
        return Rows.text(Rows.content(x, x.files() - 1));
    }
}
