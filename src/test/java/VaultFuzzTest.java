import java.lang.reflect.Method;
import java.lang.reflect.Modifier;
import java.util.ArrayList;
import java.util.Arrays;
import java.util.Comparator;
import java.util.List;
import java.util.Random;
import java.util.TreeMap;

/**
 * Runs of calls, the same ones every time, on EditionVault and on VaultModel side by side: each
 * answer has to be the same, and the whole state that can be asked for after each change of it.
 * Arguments: how many runs (300), the first one's seed (1).
 */
public final class VaultFuzzTest {
    private static final String[] PATHS = {"a", "b", "c", "ab", "a/b", "a/c", "a/b/c", "b/a", "b/a/a", "b/b", "c/x",
        "d", "d/a", "e", "f", "g", "h", "i", "j", "k", "l", "m", "abcdefghijkl", "abcdef/ghijk", "x/y/z", "x/y", "x",
        "a/abcdefghij", "z/zz", "zz"};
    private static final String[] NAMES = {"one", "two", "abcdefghijkl", "a", "one/two", "One", "x1"};
    private static final String[] PATTERNS = {"*", "?", "a*", "*/*", "a/?", "*/b", "?/*", "*a*", "**", "*/*/*", "a/*/c",
        "??", "*b", "a*b", "/", "a//b", "A", "*?*", "ab?*", "abc*l", "?*?*?*?*"};

    private final Random random;
    private final EditionVault vault = new EditionVault();
    private final VaultModel model = new VaultModel();
    private final List<String> calls = new ArrayList<>();
    private static final TreeMap<String, Method[]> METHODS = new TreeMap<>();
    private static final TreeMap<String, Integer> SEEN = new TreeMap<>();
    private final int kind;
    private int wrong;

    private VaultFuzzTest(long seed) {
        random = new Random(seed);
        kind = (int) (seed % 6);
    }

    public static void main(String[] args) throws Exception {
        int runs = args.length > 0 ? Integer.parseInt(args[0]) : 300;
        int first = args.length > 1 ? Integer.parseInt(args[1]) : 1;
        for (Method m : EditionVault.class.getDeclaredMethods()) {
            if (Modifier.isPublic(m.getModifiers())) {
                METHODS.put(m.getName(), new Method[] {m, VaultModel.class.getDeclaredMethod(m.getName(), m.getParameterTypes())});
            }
        }
        int failed = 0;
        for (int i = 0; i < runs; i++) {
            failed += new VaultFuzzTest(first + i).run() ? 0 : 1;
        }
        if (args.length > 2) {
            SEEN.forEach((k, v) -> System.out.println(k + " " + v));
        }
        System.out.println(runs + " runs, " + failed + " with a wrong answer");
        if (failed > 0) {
            System.exit(1);
        }
    }

    private boolean run() throws Exception {
        for (int i = 0; i < 160 && wrong == 0; i++) {
            step();
            if (i % 8 == 0) {
                look();
            }
        }
        look();
        return wrong == 0;
    }

    private int call(String name, Object... args) throws Exception {
        Method[] both = METHODS.get(name);
        int got = (Integer) both[0].invoke(vault, args);
        int want = (Integer) both[1].invoke(model, args);
        calls.add(name + Arrays.toString(args) + " -> " + want);
        SEEN.merge(name + " " + (want < 0 ? "" + want : "+"), 1, Integer::sum);
        if (got != want && wrong++ == 0) {
            System.out.println("a call answered " + got + ", the last of these:");
            calls.subList(Math.max(0, calls.size() - 400), calls.size()).stream()
                .filter(c -> !c.startsWith("look")).forEach(System.out::println);
        }
        return want;
    }

    private void put(byte[] bytes) throws Exception {
        byte[] all = Arrays.copyOf(bytes, (bytes.length + 19) / 20 * 20);
        for (int i = 0; i < all.length; i += 20) {
            Object[] fives = new Object[5];
            for (int k = 0; k < 5; k++) {
                fives[k] = (all[i + 4 * k] & 255) << 24 | (all[i + 4 * k + 1] & 255) << 16
                    | (all[i + 4 * k + 2] & 255) << 8 | (all[i + 4 * k + 3] & 255);
            }
            call("feed", fives);
        }
    }

    /** Empties the tape by a call that is refused, so that what follows starts at its first byte. */
    private void clearTape() throws Exception {
        if (call("count", 11) > 0) {
            call("mend", -5, 0);
        }
    }

    private void putText(String s) throws Exception {
        clearTape();
        put(s.getBytes("ISO-8859-1"));
    }

    private String path() {
        if (random.nextInt(40) == 0) {
            return new String[] {"/", "a/", "/a", "a//b", "A", "a b", "a1"}[random.nextInt(7)];
        }
        int some = kind == 0 ? 8 : PATHS.length;
        return PATHS[random.nextInt(some)];
    }

    private String content() {
        StringBuilder s = new StringBuilder();
        if (kind == 4 || (kind == 5 && random.nextInt(4) > 0)) {
            // many small ones, so that all numbers are taken; or long ones, so that all room is
            for (int n = kind == 4 ? 1 + random.nextInt(2) : 36 + random.nextInt(5); n > 0; n--) {
                s.append((char) random.nextInt(256));
            }
            return s.toString();
        }
        int alphabet = kind == 2 ? 200 : 1 + random.nextInt(4);
        if (random.nextInt(3) > 0) {
            s.append("abcdefghijklmnopqrstuvwxyz0123456789ABCD", 0, random.nextInt(41));
            for (int edits = random.nextInt(4); edits > 0; edits--) {
                int at = random.nextInt(s.length() + 1);
                s.insert(at, (char) (random.nextBoolean() ? 'a' + random.nextInt(alphabet) : random.nextInt(256)));
                if (random.nextBoolean()) {
                    int from = random.nextInt(s.length());
                    s.delete(from, Math.min(s.length(), from + random.nextInt(6)));
                }
            }
        } else {
            for (int n = random.nextInt(kind == 3 ? 41 : 20); n > 0; n--) {
                s.append((char) ('a' + random.nextInt(alphabet)));
            }
        }
        s.setLength(Math.min(40, s.length()));
        return s.toString();
    }

    private int someEdition() {
        if (random.nextInt(25) == 0) {
            return random.nextInt(14) - 2;
        }
        int n = model.editions.size();
        return n == 0 ? 0 : new ArrayList<>(model.editions.keySet()).get(random.nextInt(n));
    }

    private int someContent() {
        int n = model.contents.size();
        return n == 0 || random.nextInt(25) == 0 ? random.nextInt(44) - 2
            : new ArrayList<>(model.contents.keySet()).get(random.nextInt(n));
    }

    private void writeOne() throws Exception {
        String p = path();
        String c = content();
        putText(p + c);
        call("write", p.length(), c.length());
    }

    private void step() throws Exception {
        switch (random.nextInt(26)) {
            case 0: case 1: case 2: case 3: case 4: case 5:
                writeOne();
                break;
            case 6: {
                String p = path();
                putText(p);
                call("remove", p.length());
                break;
            }
            case 7: case 8: {
                String p = path();
                String q = path();
                putText(p + q);
                call(random.nextBoolean() ? "move" : "copy", p.length(), q.length());
                break;
            }
            case 9: case 10: case 11: case 12:
                call("commit");
                break;
            case 13:
                call("rebuild", someEdition());
                break;
            case 14: case 15:
                call("join", someEdition(), someEdition());
                break;
            case 16:
                call(random.nextInt(3) == 0 ? "pack" : "cure");
                break;
            case 17: case 18:
                if (kind != 1) {
                    spoilOne();
                }
                break;
            case 19: case 20:
                mendOne();
                break;
            case 21: {
                String p = path();
                putText(p);
                call("fetch", someEdition(), p.length());
                break;
            }
            case 22:
                if (random.nextInt(3) > 0) {
                    call("drop", someEdition());
                } else if (random.nextInt(4) == 0) {
                    call("thin", random.nextInt(9));
                }
                break;
            case 23:
                call("seal", someEdition(), random.nextInt(3) == 0);
                break;
            case 24: {
                String s = NAMES[random.nextInt(NAMES.length)];
                putText(s);
                call("name", someEdition(), random.nextInt(5) == 0 ? 0 : s.length());
                break;
            }
            default:
                strange();
        }
    }

    private void spoilOne() throws Exception {
        int place = random.nextInt(400);
        if (random.nextInt(6) > 0) {
            place = Math.floorMod(place, Math.max(1, model.keptBytes()));
        }
        int v = random.nextInt(4) == 0 ? random.nextInt(256) : new int[] {0, 1, 2, 128, 130, 97}[random.nextInt(6)];
        call("spoil", place, v);
    }

    /** Mostly by bytes that were in the content's place in the stage or in the model's memory of them. */
    private void mendOne() throws Exception {
        int c = someContent();
        String bytes = content();
        if (model.contents.containsKey(c) && model.isWhole(c) && random.nextInt(3) > 0) {
            StringBuilder s = new StringBuilder();
            for (int b : model.read(c)) {
                s.append((char) b);
            }
            bytes = s.toString();
            if (random.nextBoolean()) {
                int place = model.contents.get(c).place + random.nextInt(1 + model.contents.get(c).kept);
                if (place < 400 && kind != 1) {
                    call("spoil", place, random.nextInt(256));
                    look();
                }
            }
        }
        putText(bytes);
        call("mend", c, bytes.length());
    }

    /** Arguments of any size, in any state of the tape. */
    private void strange() throws Exception {
        List<String> names = new ArrayList<>(METHODS.keySet());
        String name = names.get(random.nextInt(names.size()));
        Class<?>[] kinds = METHODS.get(name)[0].getParameterTypes();
        Object[] args = new Object[kinds.length];
        for (int i = 0; i < args.length; i++) {
            args[i] = kinds[i] == boolean.class ? (Object) random.nextBoolean() : (Object) strangeInt();
        }
        if (!name.equals("spoil") || kind != 1) {
            call(name, args);
        }
    }

    private int strangeInt() {
        int[] some = {Integer.MIN_VALUE, -3, -2, -1, 0, 1, 2, 3, 9, 10, 11, 12, 13, 39, 40, 41, 99, 100, 255, 256, 399,
            400, 401, Integer.MAX_VALUE};
        return random.nextInt(3) == 0 ? random.nextInt() : some[random.nextInt(some.length)];
    }

    /** All that can be asked without changing anything but the tape. */
    private void look() throws Exception {
        int from = calls.size();
        lookAtCounts();
        lookAtEditions();
        lookAtContents();
        lookByTape();
        for (int i = from; i < calls.size(); i++) {
            calls.set(i, wrong > 0 && i == calls.size() - 1 ? calls.get(i) : "look");
        }
    }

    private void lookAtCounts() throws Exception {
        for (int what = -1; what <= 15; what++) {
            call("count", what);
        }
        for (int i = -1; i <= 12; i++) {
            call("edition", i);
            for (int what = 0; what <= 2; what++) {
                call("file", -1, i, what);
                call("touched", i, what);
            }
            call("at", -1, i, random.nextBoolean(), random.nextInt(14));
        }
        for (int place = -1; place <= 400; place += 1 + random.nextInt(3)) {
            call("row", place);
            call("owner", place);
            call("risk", place, random.nextInt(2));
        }
        call("weakest", 0);
        call("weakest", 1);
        call("thrift");
        if (model.editions.size() < 7 || random.nextInt(50) == 0) {
            int bytes = random.nextInt(3) == 0 ? random.nextInt(401) : random.nextInt(1 + model.keptBytes());
            call("drops", bytes, random.nextInt(3));
        }
    }

    private void lookAtEditions() throws Exception {
        for (int e : model.editions.keySet()) {
            for (int what = 0; what <= 8; what++) {
                call("of", e, what);
            }
            int n = model.told(e, -1);
            call("told", e, -1);
            for (int i = 0; i <= n; i += 1 + random.nextInt(4)) {
                call("told", e, i);
            }
            for (int k = 0; k <= model.editions.get(e).name.length(); k++) {
                call("nameByte", e, k);
            }
            for (int i = 0; i <= model.editions.get(e).list.size(); i++) {
                call("came", e, i);
                for (int what = 0; what <= 2; what++) {
                    call("file", e, i, what);
                }
                for (int k = 0; k <= 40; k += 1 + random.nextInt(5)) {
                    call("at", e, i, random.nextInt(4) > 0, k);
                }
            }
            int other = someEdition();
            call("common", e, other);
            int changes = call("change", e, other, -1, 0);
            for (int k = 0; k <= changes; k++) {
                for (int what = 0; what <= 3; what++) {
                    call("change", e, other, k, what);
                }
            }
        }
    }

    private void lookAtContents() throws Exception {
        for (int c = -1; c <= 40; c++) {
            for (int what = 0; what <= 10; what++) {
                call("content", c, what);
            }
            call("pieces", c, someContent());
        }
    }

    private void lookByTape() throws Exception {
        String s = PATTERNS[random.nextInt(PATTERNS.length)];
        putText(s);
        for (int e : model.editions.keySet()) {
            int found = call("like", e, s.length(), -1);
            for (int k = 0; k <= found; k++) {
                call("like", e, s.length(), k);
            }
        }
        String p = path();
        putText(p);
        for (int e : model.editions.keySet()) {
            call("weigh", e, p.length());
        }
        for (int k = 0; k <= 3; k++) {
            call("since", p.length(), k);
        }
        s = NAMES[random.nextInt(NAMES.length)];
        putText(s);
        call("named", s.length());
    }
}
