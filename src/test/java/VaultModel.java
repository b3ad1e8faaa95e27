import java.util.ArrayList;
import java.util.Arrays;
import java.util.List;
import java.util.Map;
import java.util.TreeMap;
import java.util.TreeSet;

/**
 * The document once more, written as plainly as its sentences go and with no thought for room or
 * speed: texts, maps and copies of the whole state. VaultFuzzTest compares EditionVault with it.
 */
final class VaultModel {
    static final class Content {
        int length;
        int mark;
        int place;
        int kept;
        Integer base;
    }

    static final class Ed {
        int number;
        Integer of;
        Integer alsoOf;
        boolean isSealed;
        String name = "";
        TreeMap<String, Integer> list = new TreeMap<>();
    }

    List<Integer> tape = new ArrayList<>();
    TreeMap<String, int[]> stage = new TreeMap<>();
    Integer stageOf;
    Integer stageAlsoOf;
    TreeMap<Integer, Ed> editions = new TreeMap<>();
    int next;
    TreeMap<Integer, Content> contents = new TreeMap<>();
    int[] row = new int[400];
    int conflicts;

    VaultModel copied() {
        VaultModel m = new VaultModel();
        m.tape = new ArrayList<>(tape);
        m.stage = new TreeMap<>(stage);
        m.stageOf = stageOf;
        m.stageAlsoOf = stageAlsoOf;
        for (Ed e : editions.values()) {
            Ed f = new Ed();
            f.number = e.number;
            f.of = e.of;
            f.alsoOf = e.alsoOf;
            f.isSealed = e.isSealed;
            f.name = e.name;
            f.list = new TreeMap<>(e.list);
            m.editions.put(f.number, f);
        }
        m.next = next;
        for (Map.Entry<Integer, Content> c : contents.entrySet()) {
            Content d = new Content();
            d.length = c.getValue().length;
            d.mark = c.getValue().mark;
            d.place = c.getValue().place;
            d.kept = c.getValue().kept;
            d.base = c.getValue().base;
            m.contents.put(c.getKey(), d);
        }
        m.row = row.clone();
        m.conflicts = conflicts;
        return m;
    }

    void become(VaultModel m) {
        tape = m.tape;
        stage = m.stage;
        stageOf = m.stageOf;
        stageAlsoOf = m.stageAlsoOf;
        editions = m.editions;
        next = m.next;
        contents = m.contents;
        row = m.row;
        conflicts = m.conflicts;
    }

    // ---- terms ----

    static boolean isPath(String s) {
        return s.length() <= 12 && s.matches("[a-z]+(/[a-z]+)*");
    }

    static boolean isAbove(String p, String q) {
        return q.startsWith(p + "/");
    }

    static boolean isWithin(String p, String top) {
        return p.equals(top) || isAbove(top, p);
    }

    static boolean isInTheWay(String p, String q) {
        return isAbove(p, q) || isAbove(q, p);
    }

    static int mark(int[] bytes) {
        long m = 7;
        for (int b : bytes) {
            m = (31 * m + b + 1) % 65521;
        }
        return (int) m;
    }

    String tapeText(int from, int n) {
        StringBuilder s = new StringBuilder();
        for (int i = from; i < from + n; i++) {
            s.append((char) (int) tape.get(i));
        }
        return s.toString();
    }

    int[] tapeBytes(int from, int n) {
        int[] out = new int[n];
        for (int i = 0; i < n; i++) {
            out[i] = tape.get(from + i);
        }
        return out;
    }

    int[] read(int number) {
        Content c = contents.get(number);
        if (c.base == null) {
            return Arrays.copyOfRange(row, c.place, c.place + c.kept);
        }
        int[] base = read(c.base);
        if (base == null) {
            return null;
        }
        List<Integer> out = new ArrayList<>();
        int at = 0;
        while (at < c.kept) {
            int z = row[c.place + at];
            at++;
            if (z < 128) {
                if (z == 0) {
                    return null;
                }
                for (int i = 0; i < z; i++) {
                    if (at >= c.kept) {
                        return null;
                    }
                    out.add(row[c.place + at]);
                    at++;
                }
            } else {
                if (at >= c.kept) {
                    return null;
                }
                int n = row[c.place + at];
                at++;
                if (n == 0) {
                    return null;
                }
                for (int i = 0; i < n; i++) {
                    if (z - 128 + i >= base.length) {
                        return null;
                    }
                    out.add(base[z - 128 + i]);
                }
            }
        }
        if (out.size() != c.length) {
            return null;
        }
        return out.stream().mapToInt(Integer::intValue).toArray();
    }

    int depth(int number) {
        Content c = contents.get(number);
        return c.base == null ? 0 : depth(c.base) + 1;
    }

    boolean isWhole(int number) {
        int[] bytes = read(number);
        return bytes != null && mark(bytes) == contents.get(number).mark;
    }

    static boolean isRun(int[] bytes, int at, int[] base, int place, int n) {
        if (at + n > bytes.length || place + n > base.length) {
            return false;
        }
        for (int i = 0; i < n; i++) {
            if (bytes[at + i] != base[place + i]) {
                return false;
            }
        }
        return true;
    }

    static int[] piecesOf(int[] bytes, int[] base) {
        List<Integer> out = new ArrayList<>();
        List<Integer> own = new ArrayList<>();
        int at = 0;
        while (at < bytes.length) {
            int foundPlace = -1;
            int foundLength = 0;
            for (int n = bytes.length - at; n >= 3 && foundPlace < 0; n--) {
                for (int place = 0; place < base.length && foundPlace < 0; place++) {
                    if (isRun(bytes, at, base, place, n)) {
                        foundPlace = place;
                        foundLength = n;
                    }
                }
            }
            if (foundPlace < 0) {
                own.add(bytes[at]);
                at++;
            } else {
                flush(out, own);
                out.add(128 + foundPlace);
                out.add(foundLength);
                at += foundLength;
            }
        }
        flush(out, own);
        return out.stream().mapToInt(Integer::intValue).toArray();
    }

    private static void flush(List<Integer> out, List<Integer> own) {
        if (!own.isEmpty()) {
            out.add(own.size());
            out.addAll(own);
            own.clear();
        }
    }

    Integer ownerOf(int place) {
        for (Map.Entry<Integer, Content> c : contents.entrySet()) {
            if (place >= c.getValue().place && place < c.getValue().place + c.getValue().kept) {
                return c.getKey();
            }
        }
        return null;
    }

    /** The row as a text: a dot for each free byte. */
    private String holes() {
        StringBuilder s = new StringBuilder();
        for (int place = 0; place < 400; place++) {
            s.append(ownerOf(place) == null ? '.' : 'x');
        }
        return s.toString();
    }

    int findRoom(int n) {
        return holes().indexOf(".".repeat(n));
    }

    Integer wholeWith(int[] bytes) {
        for (int c : contents.keySet()) {
            if (isWhole(c) && Arrays.equals(read(c), bytes)) {
                return c;
            }
        }
        return null;
    }

    /** Its number, or null if there is none for it or no room. */
    Integer keep(int[] bytes) {
        int number = 0;
        while (contents.containsKey(number)) {
            number++;
        }
        if (number >= 40) {
            return null;
        }
        Integer best = null;
        int[] how = bytes;
        for (int c : contents.keySet()) {
            if (isWhole(c) && depth(c) < 3) {
                int[] p = piecesOf(bytes, read(c));
                if (p.length < how.length) {
                    best = c;
                    how = p;
                }
            }
        }
        int place = findRoom(how.length);
        if (place < 0) {
            return null;
        }
        System.arraycopy(how, 0, row, place, how.length);
        Content c = new Content();
        c.length = bytes.length;
        c.mark = mark(bytes);
        c.place = how.length == 0 ? 0 : place;
        c.kept = how.length;
        c.base = best;
        contents.put(number, c);
        return number;
    }

    TreeSet<Integer> ancestors(int number) {
        TreeSet<Integer> all = new TreeSet<>();
        all.add(number);
        Ed e = editions.get(number);
        if (e.of != null) {
            all.addAll(ancestors(e.of));
        }
        if (e.alsoOf != null) {
            all.addAll(ancestors(e.alsoOf));
        }
        return all;
    }

    Integer commonOf(int a, int b) {
        TreeSet<Integer> both = ancestors(a);
        both.retainAll(ancestors(b));
        return both.isEmpty() ? null : both.last();
    }

    boolean isBase(int content) {
        for (Content c : contents.values()) {
            if (c.base != null && c.base == content) {
                return true;
            }
        }
        return false;
    }

    int listPaths(int content) {
        int n = 0;
        for (Ed e : editions.values()) {
            for (int c : e.list.values()) {
                n += c == content ? 1 : 0;
            }
        }
        return n;
    }

    int dropIt(int number) {
        Integer heir = editions.get(number).of;
        editions.remove(number);
        for (Ed e : editions.values()) {
            if (e.of != null && e.of == number) {
                e.of = heir;
            }
            if (e.alsoOf != null && e.alsoOf == number) {
                e.alsoOf = heir;
            }
        }
        if (stageOf != null && stageOf == number) {
            stageOf = heir;
        }
        if (stageAlsoOf != null && stageAlsoOf == number) {
            stageAlsoOf = heir;
        }
        int gone = 0;
        boolean again = true;
        while (again) {
            again = false;
            for (int c : new ArrayList<>(contents.keySet())) {
                if (listPaths(c) == 0 && !isBase(c)) {
                    contents.remove(c);
                    gone++;
                    again = true;
                }
            }
        }
        return gone;
    }

    int keptBytes() {
        return contents.values().stream().mapToInt(c -> c.kept).sum();
    }

    List<String> pathsWithin(Iterable<String> all, String top) {
        List<String> found = new ArrayList<>();
        for (String p : all) {
            if (isWithin(p, top)) {
                found.add(p);
            }
        }
        return found;
    }

    static int or(Integer x, int none) {
        return x == null ? none : x;
    }

    static <T> T nth(Iterable<T> all, int i) {
        int k = 0;
        for (T t : all) {
            if (k == i) {
                return t;
            }
            k++;
        }
        return null;
    }

    static int placeIn(Iterable<String> all, String path) {
        int k = 0;
        for (String p : all) {
            if (p.equals(path)) {
                return k;
            }
            k++;
        }
        return -2;
    }

    // ---- the face ----

    public int feed(int a, int b, int c, int d, int e) {
        if (tape.size() > 140) {
            return -1;
        }
        for (int x : new int[] {a, b, c, d, e}) {
            tape.add((x >> 24) & 255);
            tape.add((x >> 16) & 255);
            tape.add((x >> 8) & 255);
            tape.add(x & 255);
        }
        return tape.size();
    }

    private boolean isShort(int p, int least, int most) {
        return p < least || p > most || p > tape.size();
    }

    public int write(int p, int n) {
        if (isShort(p, 1, 12) || isShort(n, 0, 40) || p + n > tape.size()) {
            return -1;
        }
        String path = tapeText(0, p);
        int[] bytes = tapeBytes(p, n);
        tape.clear();
        if (!isPath(path)) {
            return -2;
        }
        for (String s : stage.keySet()) {
            if (isInTheWay(s, path)) {
                return -3;
            }
        }
        if (!stage.containsKey(path) && stage.size() == 12) {
            return -4;
        }
        stage.put(path, bytes);
        return stage.size();
    }

    public int remove(int p) {
        if (isShort(p, 1, 12)) {
            return -1;
        }
        String path = tapeText(0, p);
        tape.clear();
        if (!isPath(path)) {
            return -2;
        }
        List<String> gone = pathsWithin(stage.keySet(), path);
        for (String s : gone) {
            stage.remove(s);
        }
        return gone.isEmpty() ? -3 : gone.size();
    }

    public int move(int p, int q) {
        return carry(p, q, true);
    }

    public int copy(int p, int q) {
        return carry(p, q, false);
    }

    private int carry(int p, int q, boolean isMove) {
        if (isShort(p, 1, 12) || isShort(q, 1, 12) || p + q > tape.size()) {
            return -1;
        }
        String from = tapeText(0, p);
        String to = tapeText(p, q);
        tape.clear();
        if (!isPath(from) || !isPath(to)) {
            return -2;
        }
        List<String> those = pathsWithin(stage.keySet(), from);
        if (those.isEmpty()) {
            return -3;
        }
        TreeMap<String, int[]> out = new TreeMap<>(stage);
        if (isMove) {
            out.keySet().removeAll(those);
        }
        for (String s : those) {
            String t = to + s.substring(from.length());
            if (t.length() > 12 || out.containsKey(t)) {
                return -4;
            }
            for (String u : out.keySet()) {
                if (isInTheWay(t, u)) {
                    return -4;
                }
            }
        }
        for (String s : those) {
            out.put(to + s.substring(from.length()), stage.get(s));
        }
        if (out.size() > 12) {
            return -5;
        }
        stage = out;
        return those.size();
    }

    public int commit() {
        if (stageOf != null && stageAlsoOf == null) {
            Ed e = editions.get(stageOf);
            boolean isSame = e.list.keySet().equals(stage.keySet());
            for (String s : stage.keySet()) {
                isSame = isSame && isWhole(e.list.get(s)) && Arrays.equals(read(e.list.get(s)), stage.get(s));
            }
            if (isSame) {
                return -2;
            }
        }
        if (editions.size() == 10 || next > 99) {
            return -3;
        }
        VaultModel was = copied();
        Ed e = new Ed();
        for (Map.Entry<String, int[]> f : stage.entrySet()) {
            Integer c = wholeWith(f.getValue());
            if (c == null) {
                c = keep(f.getValue());
            }
            if (c == null) {
                become(was);
                return -4;
            }
            e.list.put(f.getKey(), c);
        }
        e.number = next;
        e.of = stageOf;
        e.alsoOf = stageAlsoOf;
        editions.put(next, e);
        next++;
        stageOf = e.number;
        stageAlsoOf = null;
        return e.number;
    }

    public int rebuild(int edition) {
        Ed e = editions.get(edition);
        if (e == null) {
            return -2;
        }
        TreeMap<String, int[]> out = new TreeMap<>();
        for (Map.Entry<String, Integer> f : e.list.entrySet()) {
            if (!isWhole(f.getValue())) {
                return -3;
            }
            out.put(f.getKey(), read(f.getValue()));
        }
        stage = out;
        stageOf = edition;
        stageAlsoOf = null;
        return out.size();
    }

    private static boolean isSame(Integer a, Integer b) {
        return a == null ? b == null : a.equals(b);
    }

    public int join(int a, int b) {
        Ed left = editions.get(a);
        Ed right = editions.get(b);
        if (left == null || right == null) {
            return -2;
        }
        Integer shared = commonOf(a, b);
        TreeMap<String, Integer> origin = shared == null ? new TreeMap<>() : editions.get(shared).list;
        TreeSet<String> all = new TreeSet<>(origin.keySet());
        all.addAll(left.list.keySet());
        all.addAll(right.list.keySet());
        TreeSet<String> clashes = new TreeSet<>();
        TreeMap<String, Integer> out = new TreeMap<>();
        for (String path : all) {
            Integer o = origin.get(path);
            Integer x = left.list.get(path);
            Integer y = right.list.get(path);
            Integer got;
            if (isSame(y, x) || isSame(y, o)) {
                got = x;
            } else if (isSame(x, o)) {
                got = y;
            } else {
                clashes.add(path);
                got = x == null ? y : x;
            }
            if (got != null) {
                boolean isOut = false;
                for (String s : out.keySet()) {
                    isOut |= isInTheWay(s, path);
                }
                if (isOut) {
                    clashes.add(path);
                } else {
                    out.put(path, got);
                }
            }
        }
        for (int c : out.values()) {
            if (!isWhole(c)) {
                return -3;
            }
        }
        if (out.size() > 12) {
            return -4;
        }
        stage = new TreeMap<>();
        for (Map.Entry<String, Integer> f : out.entrySet()) {
            stage.put(f.getKey(), read(f.getValue()));
        }
        stageOf = a;
        stageAlsoOf = b;
        conflicts = clashes.size();
        return conflicts;
    }

    public int drop(int edition) {
        Ed e = editions.get(edition);
        if (e == null) {
            return -2;
        }
        return e.isSealed ? -3 : dropIt(edition);
    }

    public int pack() {
        TreeMap<Integer, Content> byPlace = new TreeMap<>();
        for (Content c : contents.values()) {
            if (c.kept > 0) {
                byPlace.put(c.place, c);
            }
        }
        int[] out = new int[400];
        int end = 0;
        int moved = 0;
        for (Content c : byPlace.values()) {
            System.arraycopy(row, c.place, out, end, c.kept);
            moved += c.place == end ? 0 : c.kept;
            c.place = end;
            end += c.kept;
        }
        row = out;
        return moved;
    }

    public int spoil(int place, int v) {
        if (place < 0 || place > 399 || v < 0 || v > 255) {
            return -1;
        }
        int was = row[place];
        row[place] = v;
        return was;
    }

    private int mendBy(int content, int[] bytes) {
        Content c = contents.get(content);
        if (c == null) {
            return -2;
        }
        if (bytes.length != c.length || mark(bytes) != c.mark) {
            return -3;
        }
        int[] how = bytes;
        if (c.base != null) {
            if (!isWhole(c.base)) {
                return -4;
            }
            how = piecesOf(bytes, read(c.base));
        }
        if (how.length != c.kept) {
            return -4;
        }
        System.arraycopy(how, 0, row, c.place, how.length);
        return 1;
    }

    public int mend(int content, int n) {
        if (isShort(n, 0, 40)) {
            return -1;
        }
        int answer = mendBy(content, tapeBytes(0, n));
        tape.clear();
        return answer;
    }

    public int cure() {
        int mended = 0;
        int before;
        do {
            before = mended;
            for (int c : contents.keySet()) {
                for (int[] bytes : stage.values()) {
                    if (!isWhole(c) && mendBy(c, bytes) == 1) {
                        mended++;
                    }
                }
            }
        } while (mended > before);
        return mended;
    }

    private TreeSet<Integer> hanging(int content) {
        TreeSet<Integer> all = new TreeSet<>();
        all.add(content);
        for (int c : contents.keySet()) {
            if (contents.get(c).base != null && contents.get(c).base == content) {
                all.addAll(hanging(c));
            }
        }
        return all;
    }

    public int risk(int place, int what) {
        if (place < 0 || place > 399 || what < 0 || what > 1) {
            return -1;
        }
        Integer c = ownerOf(place);
        if (c == null) {
            return 0;
        }
        return what == 0 ? hanging(c).size() : hanging(c).stream().mapToInt(this::listPaths).sum();
    }

    public int weakest(int what) {
        if (what != 0 && what != 1) {
            return -1;
        }
        int best = -2;
        int most = 0;
        for (int place = 0; place < 400; place++) {
            int r = risk(place, 1);
            if (r > most) {
                most = r;
                best = place;
            }
        }
        return what == 0 ? best : most;
    }

    public int drops(int bytes, int what) {
        if (bytes < 0 || bytes > 400 || what < 0 || what > 2) {
            return -1;
        }
        List<Integer> numbers = new ArrayList<>(editions.keySet());
        int bestFew = 99;
        int bestSet = -1;
        int bestLess = -1;
        for (int set = 0; set < 1 << numbers.size(); set++) {
            VaultModel m = copied();
            boolean isFree = true;
            int few = 0;
            for (int i = 0; i < numbers.size(); i++) {
                if ((set & (1 << i)) != 0) {
                    few++;
                    isFree &= m.drop(numbers.get(i)) >= 0;
                }
            }
            int less = keptBytes() - m.keptBytes();
            if (isFree && less >= bytes && few < bestFew) {
                bestFew = few;
                bestSet = set;
                bestLess = less;
            }
        }
        if (bestSet < 0) {
            return -2;
        }
        return what == 0 ? bestFew : what == 1 ? bestSet : bestLess;
    }

    public int thin(int latest) {
        if (latest < 0 || latest > 10) {
            return -1;
        }
        List<Integer> numbers = new ArrayList<>(editions.keySet());
        int gone = 0;
        for (int i = 0; i < numbers.size() - latest; i++) {
            if (!editions.get(numbers.get(i)).isSealed) {
                gone += dropIt(numbers.get(i));
            }
        }
        return gone;
    }

    public int thrift() {
        VaultModel m = new VaultModel();
        for (int c : contents.keySet()) {
            if (listPaths(c) > 0) {
                if (!isWhole(c)) {
                    return -2;
                }
                if (m.keep(read(c)) == null) {
                    return -3;
                }
            }
        }
        return m.keptBytes();
    }

    public int pieces(int content, int base) {
        if (!contents.containsKey(content) || !contents.containsKey(base)) {
            return -1;
        }
        if (!isWhole(content) || !isWhole(base)) {
            return -2;
        }
        return piecesOf(read(content), read(base)).length;
    }

    public int fetch(int edition, int p) {
        if (isShort(p, 1, 12)) {
            return -1;
        }
        String path = tapeText(0, p);
        tape.clear();
        Ed e = editions.get(edition);
        if (e == null) {
            return -2;
        }
        List<String> come = pathsWithin(e.list.keySet(), path);
        if (!isPath(path) || come.isEmpty()) {
            return -3;
        }
        TreeMap<String, int[]> out = new TreeMap<>(stage);
        out.keySet().removeAll(pathsWithin(stage.keySet(), path));
        for (String s : come) {
            if (!isWhole(e.list.get(s))) {
                return -4;
            }
        }
        for (String s : come) {
            for (String t : out.keySet()) {
                if (isInTheWay(s, t)) {
                    return -5;
                }
            }
            out.put(s, read(e.list.get(s)));
        }
        if (out.size() > 12) {
            return -5;
        }
        stage = out;
        return come.size();
    }

    public int like(int edition, int q, int k) {
        Ed e = editions.get(edition);
        if (e == null || isShort(q, 1, 12) || k < -1) {
            return -1;
        }
        String pattern = tapeText(0, q);
        if (!pattern.matches("[a-z/?*]+")) {
            return -2;
        }
        String regex = pattern.replace("*", "[a-z]#").replace("?", "[a-z]").replace("#", "*");
        int found = 0;
        int i = 0;
        for (String s : e.list.keySet()) {
            if (s.matches(regex)) {
                if (found == k) {
                    return i;
                }
                found++;
            }
            i++;
        }
        return k == -1 ? found : -3;
    }

    private List<int[]> allTouched() {
        List<int[]> all = new ArrayList<>();
        for (Ed e : editions.values()) {
            int i = 0;
            for (int c : e.list.values()) {
                if (!isWhole(c)) {
                    all.add(new int[] {e.number, i, c});
                }
                i++;
            }
        }
        return all;
    }

    private int lengthOf(Ed e) {
        return e.list.values().stream().mapToInt(c -> contents.get(c).length).sum();
    }

    public int count(int what) {
        switch (what) {
            case 0: return stage.size();
            case 1: return or(stageOf, -2);
            case 2: return or(stageAlsoOf, -2);
            case 3: return editions.size();
            case 4: return next;
            case 5: return contents.size();
            case 6: return keptBytes();
            case 7: return Arrays.stream(holes().split("x+")).mapToInt(String::length).max().orElse(0);
            case 8: return (int) contents.keySet().stream().filter(c -> !isWhole(c)).count();
            case 9: return allTouched().size();
            case 10: return editions.values().stream().mapToInt(this::lengthOf).sum();
            case 11: return tape.size();
            case 12: return (int) contents.values().stream().filter(c -> c.base != null).count();
            case 13: return contents.keySet().stream().mapToInt(this::depth).max().orElse(0);
            case 14: return conflicts;
            default: return -1;
        }
    }

    public int edition(int i) {
        return or(i < 0 ? null : nth(editions.keySet(), i), -1);
    }

    private String text(Ed e) {
        StringBuilder s = new StringBuilder();
        for (Map.Entry<String, Integer> f : e.list.entrySet()) {
            s.append(f.getKey()).append('=').append(contents.get(f.getValue()).mark).append(';');
        }
        return s.toString();
    }

    public int of(int edition, int what) {
        Ed e = editions.get(edition);
        if (e == null) {
            return -1;
        }
        switch (what) {
            case 0: return or(e.of, -2);
            case 1: return or(e.alsoOf, -2);
            case 2: return e.list.size();
            case 3: return lengthOf(e);
            case 4: {
                VaultModel m = copied();
                m.dropIt(edition);
                return keptBytes() - m.keptBytes();
            }
            case 5: return ancestors(edition).size();
            case 6: return mark(text(e).chars().toArray());
            case 7: return e.isSealed ? 1 : 0;
            case 8: return e.name.length();
            default: return -1;
        }
    }

    public int seal(int edition, boolean is) {
        Ed e = editions.get(edition);
        if (e == null) {
            return -2;
        }
        if (e.isSealed == is) {
            return -3;
        }
        e.isSealed = is;
        return 1;
    }

    public int name(int edition, int q) {
        if (isShort(q, 0, 12)) {
            return -1;
        }
        String name = tapeText(0, q);
        tape.clear();
        Ed e = editions.get(edition);
        if (e == null) {
            return -2;
        }
        if (!name.matches("[a-z]*")) {
            return -3;
        }
        for (Ed f : editions.values()) {
            if (f != e && q > 0 && f.name.equals(name)) {
                return -4;
            }
        }
        e.name = name;
        return q;
    }

    public int named(int q) {
        if (isShort(q, 1, 12)) {
            return -1;
        }
        for (Ed e : editions.values()) {
            if (e.name.equals(tapeText(0, q))) {
                return e.number;
            }
        }
        return -2;
    }

    public int nameByte(int edition, int k) {
        Ed e = editions.get(edition);
        if (e == null || k < 0) {
            return -1;
        }
        return k < e.name.length() ? e.name.charAt(k) : -2;
    }

    public int came(int edition, int i) {
        Ed e = editions.get(edition);
        String path = e == null || i < 0 ? null : nth(e.list.keySet(), i);
        if (path == null) {
            return -1;
        }
        while (e.of != null && e.list.get(path).equals(editions.get(e.of).list.get(path))) {
            e = editions.get(e.of);
        }
        return e.number;
    }

    public int weigh(int edition, int p) {
        Ed e = editions.get(edition);
        if (e == null || isShort(p, 1, 12)) {
            return -1;
        }
        String path = tapeText(0, p);
        List<String> those = pathsWithin(e.list.keySet(), path);
        if (!isPath(path) || those.isEmpty()) {
            return -2;
        }
        return those.stream().mapToInt(s -> contents.get(e.list.get(s)).length).sum();
    }

    public int file(int edition, int i, int what) {
        Ed e = editions.get(edition);
        if ((e == null && edition != -1) || i < 0 || what < 0 || what > 2) {
            return -1;
        }
        String path = nth(edition == -1 ? stage.keySet() : e.list.keySet(), i);
        if (path == null) {
            return -1;
        }
        if (what == 0) {
            return path.length();
        }
        if (edition == -1) {
            return what == 1 ? stage.get(path).length : or(wholeWith(stage.get(path)), -2);
        }
        return what == 1 ? contents.get(e.list.get(path)).length : e.list.get(path);
    }

    public int at(int edition, int i, boolean isBytes, int k) {
        int n = file(edition, i, isBytes ? 1 : 0);
        if (n == -1 || k < 0) {
            return -1;
        }
        if (k >= n) {
            return -2;
        }
        String path = nth(edition == -1 ? stage.keySet() : editions.get(edition).list.keySet(), i);
        if (!isBytes) {
            return path.charAt(k);
        }
        int[] bytes = edition == -1 ? stage.get(path) : read(editions.get(edition).list.get(path));
        return bytes == null ? -3 : bytes[k];
    }

    public int content(int content, int what) {
        Content c = contents.get(content);
        if (c == null) {
            return -1;
        }
        switch (what) {
            case 0: return c.length;
            case 1: return c.mark;
            case 2: return c.place;
            case 3: return c.kept;
            case 4: return or(c.base, -2);
            case 5: return depth(content);
            case 6: return listPaths(content);
            case 7: return (int) contents.values().stream().filter(d -> d.base != null && d.base == content).count();
            case 8: return read(content) == null ? 0 : 1;
            case 9: return isWhole(content) ? 1 : 0;
            default: return -1;
        }
    }

    public int row(int place) {
        return place < 0 || place > 399 ? -1 : row[place];
    }

    public int owner(int place) {
        return place < 0 || place > 399 ? -1 : or(ownerOf(place), -2);
    }

    public int change(int a, int b, int k, int what) {
        Ed e = editions.get(a);
        Ed f = editions.get(b);
        if (e == null || f == null || k < -1 || what < 0 || what > 3) {
            return -1;
        }
        TreeMap<String, Integer> kinds = new TreeMap<>();
        for (String s : f.list.keySet()) {
            if (!e.list.containsKey(s)) {
                kinds.put(s, 0);
            } else if (!e.list.get(s).equals(f.list.get(s))) {
                kinds.put(s, 2);
            }
        }
        for (String s : e.list.keySet()) {
            if (!f.list.containsKey(s)) {
                kinds.put(s, 1);
            }
        }
        if (k == -1) {
            return what == 0 ? kinds.size() : -1;
        }
        String path = nth(kinds.keySet(), k);
        if (path == null) {
            return -1;
        }
        switch (what) {
            case 0: return kinds.get(path);
            case 1: return placeIn(e.list.keySet(), path);
            case 2: return placeIn(f.list.keySet(), path);
            default:
                if (kinds.get(path) == 0) {
                    for (String s : e.list.keySet()) {
                        if (or(kinds.get(s), 9) == 1 && e.list.get(s).equals(f.list.get(path))) {
                            return placeIn(e.list.keySet(), s);
                        }
                    }
                }
                return -2;
        }
    }

    public int common(int a, int b) {
        if (!editions.containsKey(a) || !editions.containsKey(b)) {
            return -1;
        }
        return or(commonOf(a, b), -2);
    }

    public int touched(int k, int what) {
        List<int[]> all = allTouched();
        return k < 0 || k >= all.size() || what < 0 || what > 2 ? -1 : all.get(k)[what];
    }

    public int told(int edition, int i) {
        Ed e = editions.get(edition);
        if (e == null || i < -1) {
            return -1;
        }
        String s = text(e);
        if (i == -1) {
            return s.length();
        }
        return i < s.length() ? s.charAt(i) : -4;
    }

    public int since(int p, int k) {
        if (isShort(p, 1, 12) || k < 0) {
            return -1;
        }
        String path = tapeText(0, p);
        List<Integer> all = new ArrayList<>();
        for (Ed e : editions.values()) {
            Integer c = e.list.get(path);
            if (c != null && (e.of == null || !c.equals(editions.get(e.of).list.get(path)))) {
                all.add(e.number);
            }
        }
        return k < all.size() ? all.get(k) : -2;
    }
}
