import java.util.ArrayList;
import java.util.List;
import java.util.function.IntFunction;

/**
 * Each sentence of the document that names a boundary: the last value that is taken and the first
 * that is refused, at both ends; empty, one less than full, full; a wrap-around; of several reasons
 * the first; a refused call, which changes nothing but the tape, where it is told.
 *
 * What is due was worked out by hand. A vault comes of the same calls as often as it is needed, so
 * that no object has to answer more than 512 of them.
 */
public final class BoundaryTest extends VaultCalls {
    private static final int NONE = -1;
    private static final int LEAST = Integer.MIN_VALUE;
    private static final int MOST = Integer.MAX_VALUE;
    private static final int[] NO_WORDS = {LEAST, -1, 0, 13, MOST};
    private static final String[] NO_PATHS = {"/", "a/", "/a", "a//b", "`", "{", "a`", "{a", "A", "Z", ".", "0", "a.",
        "a0b", "a b", "\0", "a\0", "\u00e1", "\u00fa", "\u00ff", "a\u00af" + "b", "a/b/c/d/e/f/", "/bcdefghijkl"};
    private static final int QUESTIONS_A_VAULT = 100;
    private static final List<Call> QUESTIONS = new ArrayList<>();

    private BoundaryTest() {
    }

    /** Makes a vault, by the same calls each time. */
    private interface Start {
        EditionVault make();

        default Start then(Call call) {
            return () -> {
                EditionVault v = make();
                call.on(v);
                return v;
            };
        }

        default Start with(String bytes) {
            return () -> {
                EditionVault v = make();
                tape(v, bytes);
                return v;
            };
        }

        default Start written(String path, String bytes) {
            return then(v -> write(v, path, bytes));
        }
    }

    private interface Call {
        int on(EditionVault v);
    }

    private static final Start NEW = EditionVault::new;
    private static final Start FORKED = VaultCalls::forked;
    private static final Start CHAINED = VaultCalls::chained;

    private static String letter(int i) {
        return "" + (char) ('a' + i);
    }

    /** A stage of so many files, from "a" on, each with its letter as its bytes. */
    private static Start staged(int files) {
        return () -> {
            EditionVault v = new EditionVault();
            for (int i = 0; i < files; i++) {
                write(v, letter(i), letter(i));
            }
            return v;
        };
    }

    /** So many editions, each with "x" alone, of one byte that no other one has. */
    private static Start editions(int n) {
        return () -> {
            EditionVault v = new EditionVault();
            for (int i = 0; i < n; i++) {
                write(v, "x", letter(i));
                v.commit();
            }
            return v;
        };
    }

    /** One edition of contents that have nothing in common: nine of 40 bytes, one of so many. */
    private static Start nineAnd(int last) {
        return () -> {
            EditionVault v = new EditionVault();
            for (int i = 0; i < 10; i++) {
                write(v, letter(i), stepped(3 + 2 * i, i < 9 ? 40 : last));
            }
            v.commit();
            return v;
        };
    }

    // ---- all that a vault tells, but its tape ----

    private static void gatherQuestions() {
        for (int i = 0; i < 15; i++) {
            int what = i;
            QUESTIONS.add(v -> what == 11 ? 0 : v.count(what));
        }
        for (int i = 0; i < 11; i++) {
            int k = i;
            QUESTIONS.add(v -> v.edition(k));
            for (int w = 0; w < 21; w++) {
                int what = w;
                QUESTIONS.add(w < 9 ? v -> v.of(v.edition(k), what) : v -> v.nameByte(v.edition(k), what - 9));
            }
            for (int j = 0; j < 12; j++) {
                int file = j;
                QUESTIONS.add(v -> v.file(v.edition(k), file, 2));
            }
        }
        for (int i = 0; i < 12; i++) {
            int file = i;
            for (int j = 0; j < 55; j++) {
                int k = j;
                QUESTIONS.add(j < 3 ? v -> v.file(-1, file, k) : j < 15 ? v -> v.at(-1, file, false, k - 3)
                    : v -> v.at(-1, file, true, k - 15));
            }
        }
        for (int i = 0; i < 400; i++) {
            int k = i;
            QUESTIONS.add(v -> v.row(k));
            QUESTIONS.add(v -> v.owner(k));
            QUESTIONS.add(v -> v.content(k / 10, k % 10));
        }
    }

    private static int[] answers(Start start) {
        int[] all = new int[QUESTIONS.size()];
        EditionVault v = null;
        for (int i = 0; i < all.length; i++) {
            if (i % QUESTIONS_A_VAULT == 0) {
                v = start.make();
            }
            all[i] = QUESTIONS.get(i).on(v);
        }
        return all;
    }

    private static void dueAlike(String what, Start one, Start other) {
        int[] want = answers(one);
        int[] got = answers(other);
        int differ = 0;
        for (int i = 0; i < want.length; i++) {
            differ += want[i] == got[i] ? 0 : 1;
        }
        due(what + ": answers that are not as before", differ, 0);
    }

    /** The call is refused, nothing is changed, not even the tape. */
    private static void refused(String what, Start start, Call call, int want) {
        EditionVault v = start.make();
        int size = v.count(11);
        due(what, call.on(v), want);
        due(what + ": how long the tape is", v.count(11), size);
        dueAlike(what, start, start.then(call));
        if (size > 0) {
            Call take = w -> w.write(1, Math.min(40, w.count(11) - 1));
            dueAlike(what + ", bytes of the tape", start.then(take), start.then(call).then(take));
        }
    }

    /** The call is refused, nothing is changed, but the tape is empty. */
    private static void refusedTapeGone(String what, Start start, Call call, int want) {
        EditionVault v = start.make();
        due(what + ": there is a tape", v.count(11) > 0 ? 1 : 0, 1);
        due(what, call.on(v), want);
        due(what + ": the tape is empty", v.count(11), 0);
        dueAlike(what, start, start.then(call));
    }

    private static void taken(String what, Start start, Call call, int want) {
        due(what, call.on(start.make()), want);
    }

    /** What takes a word of the tape's first bytes: 1 to 12 are a word, the tape has to have them. */
    private static void wordsRefused(String what, Start start, IntFunction<Call> call) {
        for (int p : NO_WORDS) {
            refused(what + ": " + p + " bytes", start.with("zbcdefghijklmnopqrst"), call.apply(p), NONE);
        }
        refused(what + ": the tape is empty", start, call.apply(1), NONE);
        refused(what + ": the tape is empty, 12", start, call.apply(12), NONE);
        refused(what + ": NONE ahead of what they are", start.with("A//"), call.apply(13), NONE);
    }

    // ---- terms ----

    private static void paths() {
        for (String p : new String[] {"a", "z", "a/z", "z/a", "abcdefghijkl", "zzzzzzzzzzzz", "a/b/c/d/e/f", "a/b/c/d/e/fg"}) {
            EditionVault v = new EditionVault();
            due("a PATH: " + p, write(v, p, ""), 1);
            due("a PATH: length of " + p, v.file(-1, 0, 0), p.length());
            for (int k = 0; k < p.length(); k++) {
                due("a PATH: byte " + k + " of " + p, v.at(-1, 0, false, k), p.charAt(k));
            }
        }
        for (String p : NO_PATHS) {
            refusedTapeGone("no PATH: " + p, staged(1).with(p), v -> v.write(p.length(), 1), -2);
        }
        EditionVault v = new EditionVault();
        for (String p : new String[] {"b", "aab", "a/z", "aa", "ab", "a/b", "az", "zz", "z"}) {
            write(v, p, "");
        }
        dueFiles("PATHS are in order", v, -1, "a/b= a/z= aa= aab= ab= az= b= z= zz=");
        v.commit();
        dueFiles("PATHS are in order in a LIST", v, 0, "a/b= a/z= aa= aab= ab= az= b= z= zz=");
        Start deep = NEW.written("a/b/c", "");
        refusedTapeGone("ABOVE by two", deep.with("ax"), w -> w.write(1, 1), -3);
        refusedTapeGone("ABOVE by one", deep.with("a/bx"), w -> w.write(3, 1), -3);
        refusedTapeGone("below", deep.with("a/b/c/dx"), w -> w.write(7, 1), -3);
        taken("itself", deep.with("a/b/cx"), w -> w.write(5, 1), 1);
        taken("not ABOVE: a/bc", deep.with("a/bc"), w -> w.write(4, 1), 2);
        taken("not ABOVE: a/b/cd", deep.with("a/b/cd"), w -> w.write(6, 1), 2);
        taken("not ABOVE: ab", deep.with("ab"), w -> w.write(2, 1), 2);
        taken("not ABOVE: a/b/b", deep.with("a/b/b"), w -> w.write(5, 1), 2);
    }

    /** Of twelve signs, with nothing between them in order; and one of eleven that they begin with. */
    private static void longNeighbours() {
        String eleven = "abcdefghijk";
        String a = eleven + "a";
        String b = eleven + "b";
        Start two = NEW.written(b, "B").written(a, "A");
        taken("neighbours: in order, the first", two, v -> v.at(-1, 0, false, 11), 'a');
        taken("neighbours: in order, the second", two, v -> v.at(-1, 1, false, 11), 'b');
        Start one = NEW.written(b, "B").then(EditionVault::commit).written(a, "A").then(EditionVault::commit);
        taken("neighbours: a CHANGE, the first", one, v -> v.change(0, 1, -1, 0), 1);
        taken("neighbours: its place", one, v -> v.change(0, 1, 0, 2), 0);
        Start other = NEW.written(a, "A").then(EditionVault::commit).written(b, "B").then(EditionVault::commit);
        taken("neighbours: a CHANGE, the second", other, v -> v.change(0, 1, -1, 0), 1);
        taken("neighbours: its place in b", other, v -> v.change(0, 1, 0, 2), 1);
        taken("neighbours: gone", other, v -> v.change(1, 0, 0, 0), 1);
        taken("neighbours: back, the same", other.then(v -> v.rebuild(0)), v -> v.join(0, 1) + v.count(0), 2);
        Start apart = NEW.then(EditionVault::commit).written(a, "A").then(EditionVault::commit).then(v -> v.rebuild(0))
            .written(b, "B").then(EditionVault::commit);
        dueFiles("neighbours: JOINED", apart.then(v -> v.join(1, 2)).make(), -1, a + "=A " + b + "=B");
        dueFiles("neighbours: JOINED, the other way", apart.then(v -> v.join(2, 1)).make(), -1, a + "=A " + b + "=B");
        Start both = apart.then(v -> v.join(1, 2)).then(EditionVault::commit);
        dueFiles("neighbours: gone from one", both.then(v -> remove(v, b)).then(EditionVault::commit).then(v -> v.join(3, 4)).make(),
            -1, a + "=A");
        notBelow(eleven, a);
    }

    private static void notBelow(String eleven, String a) {
        Start two = NEW.written(eleven, "11").written(a, "A");
        taken("a sign more: not below", two, v -> v.count(0), 2);
        taken("a sign less: not ABOVE", NEW.written(a, "A").written(eleven, "11"), v -> v.count(0), 2);
        taken("a sign more: it stays", two, v -> remove(v, eleven), 1);
        taken("a sign more: it is not moved", two, v -> move(v, eleven, "b"), 1);
        taken("a sign more: not in the way", two, v -> copy(v, eleven, "b"), 1);
        taken("a sign more: another moves there", NEW.written(eleven, "11").written("b", "A"), v -> move(v, "b", a), 1);
        taken("a sign less: another moves there", NEW.written(a, "A").written("b", "11"), v -> move(v, "b", eleven), 1);
        Start kept = two.then(EditionVault::commit);
        taken("a sign more: it is not fetched", kept, v -> fetch(v, 0, eleven), 1);
        taken("a sign more: it is fetched beside", kept.then(v -> remove(v, a)), v -> fetch(v, 0, a), 1);
        taken("a sign less: it is fetched beside", kept.then(v -> remove(v, eleven)), v -> fetch(v, 0, eleven), 1);
        taken("a sign more: its BYTES", kept, v -> weigh(v, 0, eleven), 2);
        Start apart = NEW.then(EditionVault::commit).written(eleven, "11").then(EditionVault::commit).then(v -> v.rebuild(0))
            .written(a, "A").then(EditionVault::commit);
        taken("a sign more: no CONFLICT", apart, v -> v.join(1, 2), 0);
        taken("a sign less: no CONFLICT", apart, v -> v.join(2, 1), 0);
        taken("a sign more: both come", apart.then(v -> v.join(1, 2)), v -> v.count(0), 2);
    }

    private static void marks() {
        String[] bytes = {"", "\0", "\u00ff", "\0\0\0", "\u00ff\u00ff", "\u00ff\u00ff\u00ff", marked(65520), marked(0), marked(1)};
        int[] want = {7, 218, 473, 12967, 14919, 4098, 65520, 0, 1};
        for (int i = 0; i < bytes.length; i++) {
            EditionVault v = new EditionVault();
            write(v, "a", bytes[i]);
            v.commit();
            due("MARK " + want[i], v.content(0, 1), want[i]);
            due("MARK " + want[i] + ": WHOLE", v.content(0, 9), 1);
            due("MARK " + want[i] + ": mended by it", mend(v, 0, bytes[i]), 1);
        }
        String most = "\u00ff".repeat(40);
        taken("MARK of 40 bytes of 255", NEW.written("a", most).then(EditionVault::commit), v -> v.content(0, 1), mark(most));
    }

    /** Content 1 of CHAINED is 32 bytes by a base of 40, six are kept: 1 # 128 30 1 #. */
    private static void reading() {
        int[][] can = {{1, '#', 128, 30, 1, '#'}, {128, 1, 128, 30, 128, 1}, {128, 29, 3, 'x', 'y', 'z'},
            {1, '#', 138, 30, 1, '#'}, {167, 1, 128, 30, 1, '#'}, {167, 1, 128, 30, 167, 1}};
        for (int i = 0; i < can.length; i++) {
            due("it can be READ, " + i, readable(can[i]), 1);
        }
        int[][] cannot = {{128, 32, 128, 0, 128, 0}, {128, 0, 128, 0, 128, 32}, {0, 0, 0, 0, 128, 32},
            {128, 32, 0, 0, 0, 0}, {128, 28, 4, 'x', 'y', 'z'}, {1, '#', 139, 30, 1, '#'}, {168, 1, 128, 30, 1, '#'},
            {255, 1, 128, 30, 1, '#'}, {1, '#', 127, 30, 1, '#'}, {127, 30, 0, 0, 0, 0}, {1, '#', 128, 29, 1, '#'},
            {1, '#', 128, 31, 1, '#'}, {128, 30, 2, 'x', 'y', 1}, {128, 30, 2, 'x', 'y', 128}, {4, 'a', 'b', 'c', 'd', 128},
            {128, 255, 128, 30, 1, '#'}, {128, 41, 128, 30, 1, '#'}, {5, 0, 0, 0, 0, 0}};
        for (int i = 0; i < cannot.length; i++) {
            due("it can't be READ, " + i, readable(cannot[i]), 0);
        }
        EditionVault v = chained();
        v.spoil(40, 0);
        for (int content = 1; content < 4; content++) {
            due("the BASE can't be READ: " + content, v.content(content, 8), 0);
            due("SPOILT: " + content, v.content(content, 9), 0);
        }
        due("the BASE's BASE can be READ", v.content(0, 8), 1);
        due("three are SPOILT", v.count(8), 3);
        v.spoil(40, 1);
        v.spoil(39, 0);
        due("PLAIN ones can be READ", v.content(0, 8), 1);
        due("PLAIN, SPOILT", v.content(0, 9), 0);
        due("WHOLE though the BASE is SPOILT", v.content(1, 9), 1);
        v.spoil(29, 0);
        due("its MARK is not as told", v.content(1, 8), 1);
        due("its MARK is not as told, SPOILT", v.content(1, 9), 0);
        readingTooMany();
    }

    /** Of 40 bytes, the most that can be: 1 '#' 128 39 at 40 to 43. */
    private static void readingTooMany() {
        int[][] cannot = {{1, '#', 128, 40}, {128, 40, 128, 1}, {128, 40, 128, 40}, {2, 'x', 'y', 128}, {3, 'x', 'y', 'z'}};
        for (int i = 0; i < cannot.length; i++) {
            EditionVault v = new EditionVault();
            write(v, "a", LONG);
            write(v, "b", "#" + LONG.substring(0, 39));
            v.commit();
            due("40 bytes: the PIECES' last one", v.row(43), 39);
            for (int k = 0; k < 4; k++) {
                v.spoil(40 + k, cannot[i][k]);
            }
            due("40 bytes: it can't be READ, " + i, v.content(1, 8), 0);
            due("40 bytes: a byte of it, " + i, v.at(0, 1, true, 39), -3);
            due("40 bytes: a byte behind it, " + i, v.at(0, 1, true, 40), -2);
            due("40 bytes: mended, " + i, mend(v, 1, "#" + LONG.substring(0, 39)), 1);
            due("40 bytes: a byte of it then, " + i, v.at(0, 1, true, 39), LONG.charAt(38));
        }
    }

    /** Whether content 1 of CHAINED can be read with these bytes; the byte behind them is 28. */
    private static int readable(int[] bytes) {
        EditionVault v = chained();
        for (int k = 0; k < bytes.length; k++) {
            v.spoil(40 + k, bytes[k]);
        }
        v.spoil(46, 28);
        return v.content(1, 8);
    }

    private static void pieces() {
        duePieces("a run of two is none", "abcdefgh", "abXYabcdefgh", 4, 'a', 'b', 'X', 'Y', 128, 8);
        duePieces("a run of three", "abcdefgh", "fghabcdefgh", 133, 3, 128, 8);
        duePieces("three alone", "abcd", "bcd", 129, 3);
        duePieces("one less than three", "abcd", "cd");
        duePieces("as long as BYTES", "abcd", "abcX");
        duePieces("one byte less than BYTES", "abcd", "abcdX", 128, 4, 1, 'X');
        duePieces("the longest", "abcXabcd", "abcdabcd!", 132, 4, 132, 4, 1, '!');
        duePieces("of like ones the first", "abcXabcY", "abcabc", 128, 3, 128, 3);
        duePieces("a run begins anew", "abcd", "XYabcZabcd", 2, 'X', 'Y', 128, 3, 1, 'Z', 128, 4);
        duePieces("all 40", LONG, LONG.substring(1), 129, 39);
        duePieces("nothing", "abcd", "");
        duePieces("by nothing", "", "abcd");
        duePieces("the last three of 40", LONG, "BCD", 165, 3);
        EditionVault v = new EditionVault();
        write(v, "a", "abcdefgh1");
        write(v, "b", "abcdefgh2");
        write(v, "c", "abcdefgh3");
        write(v, "d", "abcdefgh23");
        v.commit();
        due("of like ones the least number", v.content(2, 4), 0);
        due("the shortest", v.content(3, 4), 1);
        due("its DEPTH", v.content(3, 5), 2);
        EditionVault w = chained();
        write(w, "e", "#" + LONG.substring(0, 30) + "#+-!");
        w.commit();
        due("a BASE has a DEPTH below 3", w.content(4, 4), 2);
        due("though by the other one it were shorter", w.pieces(4, 3) < w.content(4, 3) ? 1 : 0, 1);
        due("3 at most", w.content(4, 5), 3);
        EditionVault x = chained();
        for (int i = 0; i < 4; i++) {
            remove(x, letter(i));
        }
        x.spoil(0, '!');
        write(x, "e", LONG.substring(30) + "#");
        x.commit();
        due("a BASE is WHOLE", x.content(4, 4), -2);
        x.spoil(0, 'a');
        write(x, "e", LONG.substring(29) + "#");
        x.commit();
        due("it is WHOLE again", x.content(5, 4), 0);
    }

    /** What is kept of these bytes if this base is there; none: plain. */
    private static void duePieces(String what, String base, String bytes, int... want) {
        EditionVault v = new EditionVault();
        write(v, "a", base);
        write(v, "b", bytes);
        v.commit();
        due(what + ": BASE", v.content(1, 4), want.length == 0 ? -2 : 0);
        due(what + ": KEPT", v.content(1, 3), want.length == 0 ? bytes.length() : want.length);
        dueRow(what, v, base.length(), want);
        due(what + ": READ", v.content(1, 8), 1);
        due(what + ": WHOLE", v.content(1, 9), 1);
        if (want.length > 0) {
            due(what + ": pieces()", v.pieces(1, 0), want.length);
        }
    }

    private static void places() {
        // a hole of ten ahead of ten bytes
        Start hole = NEW.written("a", stepped(3, 10)).written("b", stepped(5, 10)).then(EditionVault::commit)
            .then(v -> remove(v, "a")).then(EditionVault::commit).then(v -> v.drop(0));
        int[][] sizes = {{9, 0, 380}, {10, 0, 380}, {11, 20, 369}, {40, 20, 340}, {0, 0, 380}};
        for (int[] s : sizes) {
            EditionVault v = hole.written("c", stepped(7, s[0])).then(EditionVault::commit).make();
            due("a hole of ten: the number", v.file(2, 1, 2), 0);
            due("a hole of ten: the PLACE of " + s[0], v.content(0, 2), s[1]);
            due("a hole of ten: KEPT of " + s[0], v.content(0, 3), s[0]);
            due("a hole of ten: the longest run of free bytes behind " + s[0], v.count(7), s[2]);
        }
        taken("a hole of ten: the longest run of free bytes", hole, v -> v.count(7), 380);
        EditionVault full = nineAnd(40).written("k", "").then(EditionVault::commit).make();
        due("of none 0, though no byte is free", full.content(10, 2), 0);
        due("of none: KEPT", full.content(10, 3), 0);
        due("of none: no byte is its", full.owner(0), 0);
        EditionVault end = nineAnd(39).written("k", "!").then(EditionVault::commit).make();
        due("the last byte of THE ROW", end.content(10, 2), 399);
        due("the last byte's CONTENT", end.owner(399), 10);
        due("the last byte is", end.row(399), '!');
    }

    // ---- promises ----

    /** CONTENT 39, the last one that can be, in all that looks at all CONTENTS. */
    private static void lastNumber() {
        Start forty = fortyLess(0);
        taken("39: goes", forty, v -> v.drop(3), 10);
        taken("39: its bytes are free", forty.then(v -> v.drop(3)), v -> v.count(7), 340);
        taken("39: ALONE", forty, v -> v.of(3, 4), 20);
        taken("39: DROPS", forty.then(v -> v.seal(0, true)).then(v -> v.seal(1, true)).then(v -> v.seal(2, true)), v -> v.drops(20, 1), 8);
        taken("39: KEPT bytes", forty, v -> v.count(6), 80);
        taken("39: SPOILT", forty.then(v -> v.spoil(79, 0)), v -> v.count(8), 1);
        taken("39: TOUCHED", forty.then(v -> v.spoil(79, 0)), v -> v.touched(0, 2), 39);
        taken("39: cured", forty.then(v -> v.spoil(79, 0)), EditionVault::cure, 1);
        taken("39: THE STAGE has it", forty, v -> v.file(-1, 9, 2), 39);
        Start twice = forty.written("k", "((").then(EditionVault::commit);
        due("39: the bytes", twice.make().row(79), '(');
        taken("39: no CONTENT more", twice, v -> v.count(5), 40);
        taken("39: weakest", twice, v -> v.weakest(0), 78);
        taken("39: hang on it", twice, v -> v.weakest(1), 3);
        taken("39: hang on it, asked once more", twice.then(v -> v.weakest(1)), v -> v.weakest(1), 3);
        lastByAnother();
        lastAsBase();
    }

    private static void lastByAnother() {
        Start by = fortyLess(2).written("y", LONG).written("z", "#" + LONG.substring(0, 30) + "#").then(EditionVault::commit);
        taken("39 by 38: DEPTH", by, v -> v.count(13), 1);
        taken("39 by 38: one by a BASE", by, v -> v.count(12), 1);
        taken("39 by 38: its BASE", by, v -> v.content(39, 4), 38);
        taken("39 by 38: that is one's BASE", by, v -> v.content(38, 7), 1);
        taken("39 by 38: KEPT bytes", by, v -> v.count(6), 122);
        taken("39 by 38: CONTENTS on a byte of 38", by, v -> v.risk(76, 0), 2);
        taken("39 by 38: PATHS on a byte of 38", by, v -> v.risk(76, 1), 2);
        taken("39 by 38: CONTENTS on a byte of 39", by, v -> v.risk(116, 0), 1);
        taken("39 by 38: ALONE", by, v -> v.of(4, 4), 46);
        taken("39 by 38: 38 is SPOILT", by.then(v -> v.spoil(80, 0)), v -> v.count(8), 2);
        taken("39 by 38: 38 is cured", by.then(v -> v.spoil(80, 0)), EditionVault::cure, 1);
        taken("39 by 38: 39 is cured", by.then(v -> v.spoil(117, 0)), EditionVault::cure, 1);
        taken("39 by 38: both are cured", by.then(v -> v.spoil(80, 0)).then(v -> v.spoil(117, 0)), EditionVault::cure, 2);
        taken("39 by 38: anew", by, EditionVault::thrift, 122);
        taken("39 by 38: PIECES by 38", by, v -> v.pieces(39, 38), 6);
        taken("39 by 38: PIECES by itself", by, v -> v.pieces(39, 39), 2);
        taken("39 by 38: both go", by, v -> v.drop(4), 2);
    }

    private static void lastAsBase() {
        Start base = fortyLess(1).written("z", LONG).then(EditionVault::commit).then(v -> v.drop(0))
            .written("z", "#" + LONG.substring(0, 30) + "#").then(EditionVault::commit);
        taken("0 by 39: its BASE", base, v -> v.content(0, 4), 39);
        taken("0 by 39: KEPT", base, v -> v.content(0, 3), 6);
        taken("0 by 39: DEPTH", base, v -> v.count(13), 1);
        taken("0 by 39: CONTENTS on a byte of 39", base, v -> v.risk(v.content(39, 2), 0), 2);
        taken("0 by 39: 39 is SPOILT", base.then(v -> v.spoil(v.content(39, 2), 0)), v -> v.count(8), 2);
        // anew 0 comes first, plain: 39 by it takes two bytes and eleven for its last ten
        taken("0 by 39: anew", base, EditionVault::thrift, 29 * 2 + 32 + 13);
    }

    private static void promise1() {
        for (int i = 0; i < 400; i += 200) {
            EditionVault v = new EditionVault();
            for (int place = i; place < i + 200; place++) {
                due("1: THE ROW is 0 at " + place, v.row(place), 0);
                due("1: THE ROW is free at " + place, v.owner(place), -2);
            }
        }
        int[] counts = {0, -2, -2, 0, 0, 0, 0, 400, 0, 0, 0, 0, 0, 0, 0};
        EditionVault v = new EditionVault();
        for (int what = 0; what < counts.length; what++) {
            due("1: count(" + what + ")", v.count(what), counts[what]);
        }
        for (int content = 0; content < 40; content++) {
            due("1: no CONTENT " + content, v.content(content, 0), NONE);
        }
        due("1: no EDITION", v.edition(0), NONE);
        due("1: no FILE", v.file(-1, 0, 0), NONE);
        for (int call = 59; call < 512; call++) {
            due("1: call " + call, v.count(3), 0);
        }
    }

    private static void promise2() {
        Start seven = NEW;
        for (int i = 0; i < 7; i++) {
            int first = 'a' + i << 24;
            taken("2: from " + 20 * i + " on", seven, v -> v.feed(first, 0, 0, 0, 0), 20 * i + 20);
            seven = seven.then(v -> v.feed(first | 'x' << 16, 0, 0, 0, 0));
        }
        taken("2: just 160", seven, v -> v.feed(1, 2, 3, 4, 5), 160);
        refused("2: more than 160", seven.then(v -> v.feed(1, 2, 3, 4, 5)), v -> v.feed(6, 7, 8, 9, 10), NONE);
        EditionVault v = new EditionVault();
        v.feed(0x61808101, 0x7F00FF80, LEAST, MOST, -1);
        v.write(1, 19);
        int[] want = {0x80, 0x81, 1, 0x7F, 0, 0xFF, 0x80, 0x80, 0, 0, 0, 0x7F, 255, 255, 255, 255, 255, 255, 255};
        for (int k = 0; k < want.length; k++) {
            due("2: the highest first, " + k, v.at(-1, 0, true, k), want[k]);
        }
    }

    private static void promise3() {
        wordsRefused("3: p", staged(1), p -> v -> v.write(p, 1));
        for (int n : new int[] {LEAST, -1, 41, MOST}) {
            refused("3: n " + n, NEW.with("a" + LONG + "!"), v -> v.write(1, n), NONE);
            refused("3: NONE ahead of -2, n " + n, NEW.with("A" + LONG + "!"), v -> v.write(1, n), NONE);
        }
        refused("3: p and n wrap around", NEW.with("abc"), v -> v.write(MOST, MOST), NONE);
        taken("3: p 1, n 0", NEW.with("a"), v -> v.write(1, 0), 1);
        taken("3: p 12, n 40", NEW.with("abcdefghijkl" + LONG), v -> v.write(12, 40), 1);
        taken("3: just so many", NEW.with("abcdefghijklmnopqrst"), v -> v.write(12, 8), 1);
        refused("3: it has not so many", NEW.with("abcdefghijklmnopqrst"), v -> v.write(12, 9), NONE);
        taken("3: just so many, p 1", NEW.with("abcdefghijklmnopqrst"), v -> v.write(1, 19), 1);
        refused("3: it has not so many, p 1", NEW.with("abcdefghijklmnopqrst"), v -> v.write(1, 20), NONE);
        refused("3: it has p alone", NEW.with("a"), v -> v.write(1, 40), NONE);
        EditionVault v = new EditionVault();
        for (int i = 0; i < 12; i++) {
            due("3: how many FILES", write(v, letter(11 - i), ""), i + 1);
            due("3: the tape is empty then", v.count(11), 0);
        }
        refusedTapeGone("3: there are 12", staged(12).with("m!"), w -> w.write(1, 1), -4);
        refusedTapeGone("3: -3 ahead of -4, below", staged(12).with("a/b"), w -> w.write(3, 1), -3);
        refusedTapeGone("3: -3 ahead of -4, ABOVE", staged(11).written("l/m", "").with("l!"), w -> w.write(1, 1), -3);
        refusedTapeGone("3: -2 ahead of -3 and -4", staged(12).with("a/!"), w -> w.write(2, 1), -2);
        refusedTapeGone("3: -2 ahead of -4", staged(12).with("M!"), w -> w.write(1, 1), -2);
        EditionVault w = staged(12).make();
        due("3: in place among 12", write(w, "l", LONG), 12);
        due("3: in place, 40 BYTES", w.file(-1, 11, 1), 40);
        due("3: in place, the last of them", w.at(-1, 11, true, 39), 'D');
        due("3: in place, no BYTES", write(w, "l", ""), 12);
        due("3: in place, none is left", w.at(-1, 11, true, 0), -2);
        due("3: in place, the one ahead of it", w.at(-1, 10, true, 0), 'k');
        taken("3: all values of bytes", NEW.written("a", "\0\u00ff"), u -> u.at(-1, 0, true, 1), 255);
    }

    private static void promise4() {
        Start some = NEW.written("a/b", "1").written("a/c/d", "2").written("ab", "3").written("b", "4").written("abcdefghijkl", "5");
        wordsRefused("4: p", some, p -> v -> v.remove(p));
        for (String p : NO_PATHS) {
            refusedTapeGone("4: no PATH: " + p, some.with(p), v -> v.remove(p.length()), -2);
        }
        for (String p : new String[] {"a/bc", "a/c/d/e", "a/", "c", "abc", "a/d", "abcdefghijk"}) {
            int want = p.endsWith("/") ? -2 : -3;
            refusedTapeGone("4: there are none: " + p, some.with(p), v -> v.remove(p.length()), want);
        }
        refusedTapeGone("4: none at all", NEW.with("a"), v -> v.remove(1), -3);
        refusedTapeGone("4: -2 ahead of -3", NEW.with("a/"), v -> v.remove(2), -2);
        String[] paths = {"a", "a/c", "a/c/d", "ab", "abcdefghijkl", "b"};
        int[] want = {2, 1, 1, 1, 1, 1};
        for (int i = 0; i < paths.length; i++) {
            EditionVault v = some.make();
            due("4: " + paths[i], remove(v, paths[i]), want[i]);
            due("4: the tape is empty then", v.count(11), 0);
            due("4: FILES that stay", v.count(0), 5 - want[i]);
        }
        EditionVault v = NEW.make();
        for (int i = 0; i < 12; i++) {
            write(v, "a/" + letter(i), "");
        }
        due("4: all twelve", remove(v, "a"), 12);
        due("4: none is left", v.count(0), 0);
        due("4: none at all then", remove(v, "a"), -3);
        for (int i = 11; i >= 0; i--) {
            EditionVault w = staged(12).make();
            due("4: it goes, " + i, remove(w, letter(i)), 1);
            due("4: it went, " + i, remove(w, letter(i)), -3);
            due("4: eleven are left, " + i, w.count(0), 11);
        }
    }

    private static void promise5() {
        Start some = NEW.written("a/b", "1").written("a/c/d", "2").written("ab", "3").written("b", "4");
        wordsRefused("5: p", some, p -> v -> v.move(p, 1));
        wordsRefused("5: q", some, q -> v -> v.move(1, q));
        twoWords("5: ", some, (p, q) -> v -> v.move(p, q));
        for (String p : NO_PATHS) {
            refusedTapeGone("5: -2, the one, " + p, some.with(p + "c"), v -> v.move(p.length(), 1), -2);
            refusedTapeGone("5: -2, the other, " + p, some.with("b" + p), v -> v.move(1, p.length()), -2);
        }
        refusedTapeGone("5: -2 ahead of -3", some.with("c/d"), v -> v.move(2, 1), -2);
        refusedTapeGone("5: -2 ahead of -3, the other", some.with("cd/"), v -> v.move(1, 2), -2);
        refusedTapeGone("5: there are none", some.with("cd"), v -> v.move(1, 1), -3);
        refusedTapeGone("5: there are none at all", NEW.with("aa"), v -> v.move(1, 1), -3);
        refusedTapeGone("5: the one that was there went", staged(2).then(v -> remove(v, "b")).with("bc"), v -> v.move(1, 1), -3);
        refusedTapeGone("5: none though it begins one", some.with("a/cca"), v -> v.move(4, 1), -3);
        refusedTapeGone("5: -3 ahead of -4", some.with("cb"), v -> v.move(1, 1), -3);
        refusedTapeGone("5: one would be too long", some.with("aabcdefghi"), v -> v.move(1, 9), -4);
        taken("5: just not too long", some.with("aabcdefgh"), v -> v.move(1, 8), 2);
        taken("5: just not too long, one alone", some.with("babcdefghijkl"), v -> v.move(1, 12), 1);
        refusedTapeGone("5: a PATH that is there", some.with("abb"), v -> v.move(2, 1), -4);
        refusedTapeGone("5: the first FILE's would be there", staged(2).with("ab"), v -> v.move(1, 1), -4);
        refusedTapeGone("5: the last FILE's would be there", staged(2).with("ba"), v -> v.move(1, 1), -4);
        refusedTapeGone("5: ABOVE another one", some.with("aba/c"), v -> v.move(2, 3), -4);
        refusedTapeGone("5: ABOVE two others", some.with("aba"), v -> v.move(2, 1), -4);
        refusedTapeGone("5: below another one", some.with("abb/x"), v -> v.move(2, 3), -4);
        refusedTapeGone("5: those below it would be below another one", some.with("ab"), v -> v.move(1, 1), -4);
        refusedTapeGone("5: one of two would be there", some.written("c/c/d", "").with("ac"), v -> v.move(1, 1), -4);
        refusedTapeGone("5: the last would be ABOVE another one", some.written("c/c/d/e", "").with("ac"), v -> v.move(1, 1), -4);
        refusedTapeGone("5: the last would be below another one", some.written("c/c", "").with("ac"), v -> v.move(1, 1), -4);
        dueAlike("5: alike, nothing is changed", some, some.with("aa").then(v -> v.move(1, 1)));
        taken("5: alike", some.with("aa"), v -> v.move(1, 1), 2);
        taken("5: alike, one", some.with("bb"), v -> v.move(1, 1), 1);
        EditionVault v = some.make();
        due("5: below itself", move(v, "a/c", "a/c/e"), 1);
        due("5: ABOVE itself", move(v, "a/c/e/d", "a/c"), 1);
        due("5: all below one of them", move(v, "a", "a/b"), 2);
        dueFiles("5: all below one of them", v, -1, "a/b/b=1 a/b/c=2 ab=3 b=4");
        due("5: and back", move(v, "a/b", "a"), 2);
        dueFiles("5: and back", v, -1, "a/b=1 a/c=2 ab=3 b=4");
        EditionVault w = new EditionVault();
        for (int i = 0; i < 12; i++) {
            write(w, "a/" + letter(i), letter(i));
        }
        due("5: all twelve", move(w, "a", "z"), 12);
        due("5: all twelve are there", w.count(0), 12);
        due("5: in order", w.at(-1, 11, true, 0), 'l');
    }

    private interface TwoWords {
        Call of(int p, int q);
    }

    private static void twoWords(String what, Start start, TwoWords call) {
        String bytes = "abcdefghijklmnopqrst";
        refused(what + "it has not so many, 12 and 9", start.with(bytes), call.of(12, 9), NONE);
        refused(what + "it has not so many, 9 and 12", start.with(bytes), call.of(9, 12), NONE);
        refusedTapeGone(what + "it has just so many, 12 and 8", start.with(bytes), call.of(12, 8), -3);
        refusedTapeGone(what + "it has just so many, 8 and 12", start.with(bytes), call.of(8, 12), -3);
        refusedTapeGone(what + "12 and 12", start.with(bytes + "uvwx"), call.of(12, 12), -3);
        refused(what + "p and q wrap around", start.with(bytes), call.of(MOST, MOST), NONE);
        refused(what + "p and q wrap around", start.with(bytes), call.of(LEAST, LEAST), NONE);
    }

    private static void promise6() {
        Start some = NEW.written("a/b", "1").written("a/c/d", "2").written("ab", "3").written("b", "4");
        wordsRefused("6: p", some, p -> v -> v.copy(p, 1));
        wordsRefused("6: q", some, q -> v -> v.copy(1, q));
        twoWords("6: ", some, (p, q) -> v -> v.copy(p, q));
        for (String p : NO_PATHS) {
            refusedTapeGone("6: -2, the one, " + p, some.with(p + "c"), v -> v.copy(p.length(), 1), -2);
            refusedTapeGone("6: -2, the other, " + p, some.with("b" + p), v -> v.copy(1, p.length()), -2);
        }
        refusedTapeGone("6: -2 ahead of -3", some.with("cd/"), v -> v.copy(1, 2), -2);
        refusedTapeGone("6: there are none", some.with("cd"), v -> v.copy(1, 1), -3);
        refusedTapeGone("6: the one that was there went", staged(2).then(v -> remove(v, "b")).with("bc"), v -> v.copy(1, 1), -3);
        refusedTapeGone("6: -3 ahead of -4", some.with("cb"), v -> v.copy(1, 1), -3);
        refusedTapeGone("6: -3 ahead of -4, alike", some.with("cc"), v -> v.copy(1, 1), -3);
        refusedTapeGone("6: one would be too long", some.with("aabcdefghi"), v -> v.copy(1, 9), -4);
        taken("6: just not too long", some.with("aabcdefgh"), v -> v.copy(1, 8), 2);
        refusedTapeGone("6: alike", some.with("bb"), v -> v.copy(1, 1), -4);
        refusedTapeGone("6: alike, all below it", some.with("aa"), v -> v.copy(1, 1), -4);
        refusedTapeGone("6: a PATH that is there", some.with("abb"), v -> v.copy(2, 1), -4);
        refusedTapeGone("6: the first FILE's would be there", staged(2).with("ab"), v -> v.copy(1, 1), -4);
        refusedTapeGone("6: ABOVE others", some.with("aba"), v -> v.copy(2, 1), -4);
        refusedTapeGone("6: below another one", some.with("abb/x"), v -> v.copy(2, 3), -4);
        refusedTapeGone("6: below itself", some.with("bb/x"), v -> v.copy(1, 3), -4);
        refusedTapeGone("6: ABOVE itself", some.with("a/c/da/c"), v -> v.copy(5, 3), -4);
        refusedTapeGone("6: one of two would be there", some.written("c/c/d", "").with("ac"), v -> v.copy(1, 1), -4);
        EditionVault v = some.make();
        due("6: below a part", copy(v, "a", "a/x"), 2);
        dueFiles("6: below a part", v, -1, "a/b=1 a/c/d=2 a/x/b=1 a/x/c/d=2 ab=3 b=4");
        taken("6: just 12", staged(11).with("kx"), w -> w.copy(1, 1), 1);
        taken("6: just 12, all", staged(11).with("kx").then(w -> w.copy(1, 1)), w -> w.count(0), 12);
        refusedTapeGone("6: more than 12", staged(12).with("kx"), w -> w.copy(1, 1), -5);
        refusedTapeGone("6: -4 ahead of -5", staged(12).with("kl"), w -> w.copy(1, 1), -4);
        refusedTapeGone("6: -4 ahead of -5, alike", staged(12).with("kk"), w -> w.copy(1, 1), -4);
        refusedTapeGone("6: -4 ahead of -5, below", staged(12).with("kl/k"), w -> w.copy(1, 3), -4);
        refusedTapeGone("6: -3 ahead of -5", staged(12).with("xy"), w -> w.copy(1, 1), -3);
        refusedTapeGone("6: -2 ahead of -5", staged(12).with("aA"), w -> w.copy(1, 1), -2);
        taken("6: six twice", sixBelow(0).with("az"), w -> w.copy(1, 1), 6);
        refusedTapeGone("6: six twice and one", sixBelow(1).with("az"), w -> w.copy(1, 1), -5);
    }

    /** Six files below "a", and so many others. */
    private static Start sixBelow(int others) {
        return () -> {
            EditionVault v = new EditionVault();
            for (int i = 0; i < 6 + others; i++) {
                write(v, (i < 6 ? "a/" : "b/") + letter(i), "");
            }
            return v;
        };
    }

    private static void promise7() {
        refused("7: the same", NEW.then(EditionVault::commit), EditionVault::commit, -2);
        refused("7: the same FILES", FORKED, EditionVault::commit, -2);
        taken("7: OF none", NEW, EditionVault::commit, 0);
        taken("7: OF none, what an EDITION has", editions(1).then(v -> v.drop(0)), EditionVault::commit, 1);
        taken("7: other BYTES", FORKED.written("a", "ONE1235"), EditionVault::commit, 3);
        taken("7: a byte more", FORKED.written("a", "ONE12345"), EditionVault::commit, 3);
        taken("7: a byte less", FORKED.written("a", "ONE123"), EditionVault::commit, 3);
        taken("7: a FILE more", FORKED.written("z", "one"), EditionVault::commit, 3);
        taken("7: a FILE less", FORKED.then(v -> remove(v, "a")), EditionVault::commit, 3);
        taken("7: another PATH", FORKED.then(v -> move(v, "a", "aa")), EditionVault::commit, 3);
        taken("7: not WHOLE", FORKED.then(v -> v.spoil(v.content(4, 2), 0)), EditionVault::commit, 3);
        taken("7: not WHOLE, the last one", FORKED.then(v -> v.spoil(v.content(1, 2), 0)), EditionVault::commit, 3);
        Start readSo = FORKED.then(v -> v.spoil(v.content(4, 2), 0)).written("a", "\0NE1234");
        taken("7: not WHOLE, but READ as THE STAGE has it", readSo, EditionVault::commit, 3);
        taken("7: what is not WHOLE is KEPT anew", readSo.then(EditionVault::commit), v -> v.file(3, 0, 2), 5);
        taken("7: ALSO OF one", FORKED.then(v -> v.join(2, 2)), EditionVault::commit, 3);
        taken("7: THE STAGE is OF it then", FORKED.then(v -> v.join(1, 2)).then(EditionVault::commit), v -> v.count(1), 3);
        taken("7: THE STAGE is ALSO OF none then", FORKED.then(v -> v.join(1, 2)).then(EditionVault::commit), v -> v.count(2), -2);
        refused("7: so it is the same", FORKED.then(v -> v.join(1, 2)).then(EditionVault::commit), EditionVault::commit, -2);
        refused("7: the same as it was made anew", FORKED.written("a", "x").written("a", "ONE1234"), EditionVault::commit, -2);
        taken("7: the tenth", editions(9).written("x", "!"), EditionVault::commit, 9);
        refused("7: there are 10", editions(10).written("x", "!"), EditionVault::commit, -3);
        refused("7: -2 ahead of -3", editions(10), EditionVault::commit, -2);
        taken("7: nine again", editions(10).written("x", "!").then(v -> v.drop(4)), EditionVault::commit, 10);
        Start ninetyNine = NEW.then(v -> {
            for (int i = 0; i < 99; i++) {
                v.commit();
                v.drop(i);
            }
            return 0;
        });
        taken("7: number 99", ninetyNine, EditionVault::commit, 99);
        Start hundred = ninetyNine.then(EditionVault::commit);
        taken("7: the next were 100", hundred, v -> v.count(4), 100);
        refused("7: 99 was there", hundred.then(v -> v.drop(99)), EditionVault::commit, -3);
        refused("7: 99 is there", hundred.written("a", "b"), EditionVault::commit, -3);
        refused("7: 99 is there, -2 ahead of -3", hundred, EditionVault::commit, -2);
        refused("7: -3 ahead of -4", hundred.then(v -> {
            for (int i = 0; i < 11; i++) {
                write(v, letter(i), stepped(3 + 2 * i, 40));
            }
            return 0;
        }), EditionVault::commit, -3);
    }

    private static void promise7Full() {
        taken("7: THE ROW is full", nineAnd(40), v -> v.count(7), 0);
        taken("7: one byte is free", nineAnd(39), v -> v.count(7), 1);
        refused("7: no room for one byte", nineAnd(40).written("k", "!"), EditionVault::commit, -4);
        refused("7: no room for two", nineAnd(39).written("k", "!!"), EditionVault::commit, -4);
        taken("7: room for one", nineAnd(39).written("k", "!"), EditionVault::commit, 1);
        taken("7: none is needed for no BYTES", nineAnd(40).written("k", ""), EditionVault::commit, 1);
        taken("7: none is needed for what is KEPT", nineAnd(40).written("k", stepped(3, 40)), EditionVault::commit, 1);
        taken("7: PIECES need two", nineAnd(38).written("k", stepped(3, 20)), EditionVault::commit, 1);
        refused("7: PIECES need two, one is free", nineAnd(39).written("k", stepped(3, 20)), EditionVault::commit, -4);
        refused("7: room, but not in one run", scattered().written("z", "QQ"), EditionVault::commit, -4);
        taken("7: a run of one", scattered().written("z", "Q"), EditionVault::commit, 2);
        // the first of two is kept when the second finds no room: the free byte is as it was
        Start free = nineAnd(39).then(v -> v.spoil(399, 77));
        refused("7: all stays", free.written("k", "!").written("l", "?"), EditionVault::commit, -4);
        Start eleven = NEW.then(v -> {
            for (int i = 0; i < 11; i++) {
                write(v, letter(i), stepped(3 + 2 * i, 40));
            }
            return v.spoil(0, 77);
        });
        refused("7: all stays, from the first byte on", eleven, EditionVault::commit, -4);
        taken("7: no CONTENT came", eleven.then(EditionVault::commit), v -> v.count(5), 0);
        taken("7: the least number is free", eleven.then(EditionVault::commit).then(v -> remove(v, "a")).then(EditionVault::commit),
            v -> v.file(0, 0, 2), 0);
        refused("7: all stays, by number, too", fortyLess(1).then(v -> v.spoil(399, 7)).written("y", "~~").written("z", "??"),
            EditionVault::commit, -4);
        taken("7: the fortieth", fortyLess(1).written("z", "~~"), EditionVault::commit, 4);
        taken("7: there are 40", fortyLess(1).written("z", "~~").then(EditionVault::commit), v -> v.count(5), 40);
        refused("7: there are 40 CONTENTS", fortyLess(0).written("z", "~~"), EditionVault::commit, -4);
        refused("7: there are 40, no BYTES", fortyLess(0).written("z", ""), EditionVault::commit, -4);
        taken("7: none more is needed", fortyLess(0).written("z", "\u0001\u0001"), EditionVault::commit, 4);
        EditionVault v = fortyLess(0).then(w -> w.drop(2)).written("z", "~~").then(EditionVault::commit).make();
        due("7: the least free number", v.file(4, v.of(4, 2) - 1, 2), 20);
    }

    /** A row that is full but for two single bytes, between contents. */
    private static Start scattered() {
        return () -> {
            EditionVault v = new EditionVault();
            for (int i = 0; i < 8; i++) {
                write(v, letter(i), stepped(3 + 2 * i, 40));
            }
            write(v, "i", "!");
            write(v, "j", stepped(51, 38));
            write(v, "k", "?");
            write(v, "l", stepped(53, 40));
            v.commit();
            remove(v, "i");
            remove(v, "k");
            v.commit();
            v.drop(0);
            return v;
        };
    }

    /** Four editions of ten contents each, of two bytes, so many less in the last one. */
    private static Start fortyLess(int less) {
        return () -> {
            EditionVault v = new EditionVault();
            for (int i = 0; i < 40 - less; i++) {
                write(v, letter(i % 10), "" + (char) (i + 1) + (char) (i + 1));
                if (i % 10 == 9 || i == 39 - less) {
                    v.commit();
                }
            }
            return v;
        };
    }

    private static void promise8() {
        for (int edition : new int[] {LEAST, -2, -1, 3, 9, 100, MOST}) {
            refused("8: none such, " + edition, FORKED, v -> v.rebuild(edition), -2);
        }
        refused("8: it was dropped", FORKED.then(v -> v.drop(1)), v -> v.rebuild(1), -2);
        taken("8: the first", FORKED, v -> v.rebuild(0), 2);
        taken("8: the last", FORKED, v -> v.rebuild(2), 2);
        taken("8: OF it", FORKED.then(v -> v.join(1, 2)).then(v -> v.rebuild(0)), v -> v.count(1), 0);
        taken("8: ALSO OF none", FORKED.then(v -> v.join(1, 2)).then(v -> v.rebuild(0)), v -> v.count(2), -2);
        taken("8: no FILES", NEW.then(EditionVault::commit).written("a", "b"), v -> v.rebuild(0), 0);
        taken("8: no FILES are left", NEW.then(EditionVault::commit).written("a", "b").then(v -> v.rebuild(0)), v -> v.count(0), 0);
        taken("8: twelve FILES", staged(12).then(EditionVault::commit).then(v -> remove(v, "c")), v -> v.rebuild(0), 12);
        refused("8: the first CONTENT is SPOILT", FORKED.then(v -> v.spoil(0, 0)), v -> v.rebuild(0), -3);
        refused("8: the last CONTENT is SPOILT", FORKED.then(v -> v.spoil(6, 0)), v -> v.rebuild(0), -3);
        taken("8: another one's is SPOILT", FORKED.then(v -> v.spoil(6, 0)), v -> v.rebuild(1), 3);
        refused("8: it can't be READ", CHAINED.then(v -> v.spoil(40, 0)), v -> v.rebuild(3), -3);
        taken("8: WHOLE, its BASE is not", CHAINED.then(v -> v.spoil(39, 0)).then(v -> remove(v, "a"))
            .then(EditionVault::commit), v -> v.rebuild(4), 3);
    }

    private static void promise9() {
        Start counted = joinable();
        for (int edition : new int[] {LEAST, -2, -1, 5, MOST}) {
            refused("9: no such a, " + edition, counted, v -> v.join(edition, 0), -2);
            refused("9: no such b, " + edition, counted, v -> v.join(0, edition), -2);
        }
        refused("9: no such two", counted, v -> v.join(9, 9), -2);
        refused("9: it was dropped", counted.then(v -> v.drop(1)), v -> v.join(2, 1), -2);
        refused("9: a CONTENT of what comes is SPOILT", counted.then(v -> v.spoil(v.content(2, 2), 0)), v -> v.join(1, 2), -3);
        taken("9: one of what does not come", counted.then(v -> v.spoil(v.content(1, 2), 0)), v -> v.join(1, 2), 0);
        taken("9: with itself", counted, v -> v.join(2, 2), 0);
        EditionVault v = counted.make();
        due("9: CONFLICTS", v.count(14), 2);
        due("9: refused", v.join(1, 5), -2);
        due("9: CONFLICTS of the latest that was not refused", v.count(14), 2);
        due("9: none", v.join(1, 2), 0);
        due("9: CONFLICTS, none", v.count(14), 0);
        taken("9: 12 FILES", sides(7, 5), w -> w.join(1, 2), 0);
        taken("9: 12 FILES are there", sides(7, 5).then(w -> w.join(1, 2)), w -> w.count(0), 12);
        refused("9: 13 FILES", sides(7, 6), w -> w.join(1, 2), -4);
        refused("9: 24 FILES", sides(12, 12), w -> w.join(1, 2), -4);
        refused("9: -3 ahead of -4", sides(12, 12).then(w -> w.spoil(0, 0)), w -> w.join(1, 2), -3);
        refused("9: -2 ahead of -3", sides(12, 12).then(w -> w.spoil(0, 0)), w -> w.join(1, 3), -2);
        taken("9: no FILES", NEW.then(EditionVault::commit), w -> w.join(0, 0), 0);
        EditionVault twelve = unrelated().make();
        due("9: COMMON is none", twelve.common(1, 2), -2);
        due("9: twelve CONFLICTS", twelve.join(1, 2), 12);
        due("9: a's", twelve.at(-1, 11, true, 0), 'A' + 11);
        due("9: the other way", twelve.join(2, 1), 12);
        due("9: b's", twelve.at(-1, 11, true, 0), '0' + 11);
    }

    /** FORKED; 3 and 4, of 1 and of 2, cannot be joined without two conflicts; just that was done. */
    private static Start joinable() {
        return FORKED.then(v -> {
            v.rebuild(1);
            write(v, "a", "A");
            write(v, "c", "below it");
            v.commit();
            v.rebuild(2);
            write(v, "c/d", "below it");
            v.commit();
            return v.join(3, 4);
        });
    }

    /** 1 and 2, both of an empty 0, with so many files each, no path alike. */
    private static Start sides(int left, int right) {
        return NEW.then(v -> {
            v.commit();
            for (int i = 0; i < left; i++) {
                write(v, letter(i), letter(i));
            }
            v.commit();
            v.rebuild(0);
            for (int i = 0; i < right; i++) {
                write(v, letter(12 + i), letter(i));
            }
            return v.commit();
        });
    }

    /** 1 and 2 with the same twelve paths and nothing that both came of. */
    private static Start unrelated() {
        return NEW.then(v -> {
            v.commit();
            for (int i = 0; i < 12; i++) {
                write(v, letter(i), "" + (char) ('A' + i));
            }
            v.commit();
            v.rebuild(0);
            for (int i = 0; i < 12; i++) {
                write(v, letter(i), "" + (char) ('0' + i));
            }
            v.commit();
            return v.drop(0);
        });
    }

    private static void promise9Settled() {
        // o, x, y as contents at "p", "" none; what comes, and whether it is a conflict
        String[][] cases = {{"", "", "", "", "0"}, {"o", "o", "o", "o", "0"}, {"o", "x", "x", "x", "0"}, {"o", "x", "o", "x", "0"},
            {"o", "o", "y", "y", "0"}, {"o", "", "o", "", "0"}, {"o", "o", "", "", "0"}, {"o", "", "", "", "0"},
            {"o", "x", "y", "x", "1"}, {"o", "", "y", "y", "1"}, {"o", "x", "", "x", "1"}, {"", "x", "", "x", "0"},
            {"", "", "y", "y", "0"}, {"", "x", "y", "x", "1"}, {"", "x", "x", "x", "0"}};
        for (String[] c : cases) {
            EditionVault v = new EditionVault();
            String told = "9: o " + c[0] + ", x " + c[1] + ", y " + c[2];
            put(v, c[0]);
            v.commit();
            for (int side = 1; side <= 2; side++) {
                v.rebuild(0);
                put(v, c[side]);
                write(v, "k" + letter(side), "");
                v.commit();
            }
            due(told, v.join(1, 2), Integer.parseInt(c[4]));
            dueFiles(told, v, -1, "kb= kc=" + (c[3].isEmpty() ? "" : " p=" + c[3]));
        }
        // "b" comes, so "b/c", which is a conflict, is left out: one conflict
        EditionVault v = new EditionVault();
        write(v, "b/c", "old");
        v.commit();
        remove(v, "b");
        write(v, "b", "file");
        v.commit();
        v.rebuild(0);
        write(v, "b/c", "new");
        v.commit();
        due("9: CONFLICTS are PATHS, each one at most", v.join(1, 2), 1);
        dueFiles("9: left out", v, -1, "b=file");
        due("9: the other way", v.join(2, 1), 1);
        dueFiles("9: left out, too", v, -1, "b=file");
    }

    private static void promise9Many() {
        // 12 paths of both that are gone in both, 12 of a, and 12 of b below these
        Start all = below(12).then(EditionVault::commit).then(v -> {
            remove(v, "a");
            for (int i = 1; i < 13; i++) {
                write(v, letter(i), "");
            }
            v.commit();
            v.rebuild(0);
            remove(v, "a");
            for (int i = 1; i < 13; i++) {
                write(v, letter(i) + "/z", "!");
            }
            return v.commit();
        });
        taken("9: all 36 PATHS", all, v -> v.join(1, 2), 12);
        taken("9: a's", all.then(v -> v.join(1, 2)), v -> v.count(0), 12);
        taken("9: the last of a's", all.then(v -> v.join(1, 2)), v -> v.file(-1, 11, 0), 1);
        taken("9: the other way", all, v -> v.join(2, 1), 12);
        taken("9: that one is ahead, too", all.then(v -> v.join(2, 1)), v -> v.file(-1, 11, 1), 0);
        // content 0 is one like others: x where it is a's, no none
        Start zero = editions(2).then(v -> v.rebuild(1)).written("x", "a").then(EditionVault::commit).then(v -> v.rebuild(1))
            .written("x", "z").then(EditionVault::commit);
        taken("9: x is CONTENT 0", zero, v -> v.join(2, 3), 1);
        taken("9: x comes", zero.then(v -> v.join(2, 3)), v -> v.at(-1, 0, true, 0), 'a');
        taken("9: y is CONTENT 0", zero, v -> v.join(3, 2), 1);
        taken("9: x comes, too", zero.then(v -> v.join(3, 2)), v -> v.at(-1, 0, true, 0), 'z');
        Start under = editions(1).written("y", "!").then(EditionVault::commit).then(v -> v.rebuild(0)).written("y/a", "a")
            .then(EditionVault::commit);
        taken("9: CONTENT 0 is left out", under, v -> v.join(1, 2), 1);
        taken("9: CONTENT 0 is left out, FILES", under.then(v -> v.join(1, 2)), v -> v.count(0), 2);
        taken("9: what an earlier join had is not in the way", under.then(v -> v.join(2, 2)), v -> v.join(1, 1), 0);
        taken("9: all of it is there", under.then(v -> v.join(2, 2)).then(v -> v.join(1, 1)), v -> v.count(0), 2);
    }

    /** "p" with these bytes, or without it. */
    private static void put(EditionVault v, String bytes) {
        if (bytes.isEmpty()) {
            remove(v, "p");
        } else {
            write(v, "p", bytes);
        }
    }

    private static void promise10() {
        for (int edition : new int[] {LEAST, -2, -1, 3, 100, MOST}) {
            refused("10: none such, " + edition, FORKED.then(v -> v.seal(2, true)), v -> v.drop(edition), -2);
        }
        refused("10: it went", FORKED.then(v -> v.drop(1)), v -> v.drop(1), -2);
        refused("10: SEALED", FORKED.then(v -> v.seal(1, true)), v -> v.drop(1), -3);
        taken("10: not any more", FORKED.then(v -> v.seal(1, true)).then(v -> v.seal(1, false)), v -> v.drop(1), 2);
        taken("10: the only one", editions(1), v -> v.drop(0), 1);
        taken("10: none go", NEW.then(EditionVault::commit), v -> v.drop(0), 0);
        taken("10: forty less ten", fortyLess(0), v -> v.drop(1), 10);
        EditionVault v = CHAINED.then(w -> w.drop(0)).then(w -> w.drop(1)).then(w -> w.drop(2)).make();
        due("10: again, till none goes", v.drop(3), 4);
        due("10: all free", v.count(7), 400);
        due("10: the stage is OF none", v.count(1), -2);
        due("10: numbers do not come again", v.commit(), 4);
        EditionVault w = editions(3).make();
        due("10: one between", w.drop(1), 1);
        due("10: what was OF it", w.of(2, 0), 0);
        due("10: the first", w.drop(0), 1);
        due("10: what was OF it, none", w.of(2, 0), -2);
        due("10: the stage's own", w.drop(2), 1);
        due("10: the stage, none", w.count(1), -2);
        EditionVault x = FORKED.then(y -> y.join(1, 2)).then(EditionVault::commit).then(y -> y.join(1, 2)).make();
        due("10: another one", x.drop(0), 0);
        due("10: the stage is OF that still", x.count(1), 1);
        due("10: the stage is ALSO OF that still", x.count(2), 2);
        due("10: what was OF none", x.of(1, 0), -2);
        due("10: the one that it was ALSO OF", x.drop(2), 1);
        due("10: what was ALSO OF it, none", x.of(3, 1), -2);
        due("10: the stage, ALSO OF none", x.count(2), -2);
        due("10: the stage, OF", x.count(1), 1);
        EditionVault z = FORKED.then(y -> y.join(1, 2)).then(EditionVault::commit).then(y -> y.join(1, 2)).make();
        z.drop(2);
        due("10: what was ALSO OF it", z.of(3, 1), 0);
        due("10: the stage, ALSO OF", z.count(2), 0);
        due("10: OF stays", z.of(3, 0), 1);
        z.drop(1);
        due("10: what was OF it, ALSO OF stays", z.of(3, 0), 0);
        due("10: the stage, what was OF it", z.count(1), 0);
    }

    private static void promise11() {
        taken("11: an empty ROW", NEW, EditionVault::pack, 0);
        taken("11: a full ROW", nineAnd(40), EditionVault::pack, 0);
        taken("11: no KEPT bytes", NEW.written("a", "").then(EditionVault::commit), EditionVault::pack, 0);
        Start first = NEW.written("a", "!").written("b", stepped(3, 39)).written("c", "??").then(EditionVault::commit)
            .then(v -> remove(v, "a")).then(EditionVault::commit).then(v -> v.drop(0));
        EditionVault v = first.make();
        due("11: a hole of one byte ahead of all", v.pack(), 41);
        due("11: PLACE", v.content(1, 2), 0);
        due("11: PLACE behind it", v.content(2, 2), 39);
        for (int k = 0; k < 39; k++) {
            due("11: byte " + k, v.row(k), 3 + 3 * k);
            due("11: owner " + k, v.owner(k), 1);
        }
        due("11: the first byte behind it", v.row(39), '?');
        due("11: its owner", v.owner(39), 2);
        due("11: the last byte", v.row(40), '?');
        due("11: what was the last byte is 0", v.row(41), 0);
        due("11: and free", v.owner(41), -2);
        due("11: WHOLE", v.count(8), 0);
        due("11: nothing more", v.pack(), 0);
        EditionVault w = first.written("a", "#").then(EditionVault::commit).then(x -> remove(x, "b"))
            .then(EditionVault::commit).then(x -> x.drop(1)).then(x -> x.drop(2)).make();
        due("11: a hole between", w.count(6), 3);
        due("11: the one ahead of it stays", w.pack(), 2);
        due("11: the one ahead of it", w.content(0, 2), 0);
        due("11: the one behind it", w.content(2, 2), 1);
        dueRow("11: all bytes", w, 0, '#', '?', '?', 0);
        for (int k = 0; k < 4; k++) {
            due("11: owner of " + k, w.owner(k), k == 0 ? 0 : k < 3 ? 2 : -2);
        }
        Start end = nineAnd(40).then(x -> remove(x, "a")).then(EditionVault::commit).then(x -> x.drop(0));
        taken("11: up to the last byte", end, EditionVault::pack, 360);
        taken("11: the last byte moves", end.then(EditionVault::pack), x -> x.row(359), stepped(21, 40).charAt(39));
        taken("11: behind it", end.then(EditionVault::pack), x -> x.row(360), 0);
        taken("11: the longest run of free bytes", end.then(EditionVault::pack), x -> x.count(7), 40);
        EditionVault free = NEW.then(x -> x.spoil(0, 5)).then(x -> x.spoil(399, 6)).make();
        due("11: nothing has another PLACE", free.pack(), 0);
        due("11: free bytes are 0, the first", free.row(0), 0);
        due("11: free bytes are 0, the last", free.row(399), 0);
    }

    /** Nine of 40, one of 39, one of one byte at 399; then the first one goes. */
    private static void packedFromTheEnd() {
        Start end = nineAnd(39).written("k", "!").then(EditionVault::commit).then(v -> remove(v, "a"))
            .then(EditionVault::commit).then(v -> v.thin(1));
        taken("11: ahead of it, the last byte", end, v -> v.owner(399), 10);
        taken("11: the last byte moves, too", end, EditionVault::pack, 360);
        taken("11: the last byte is at", end.then(EditionVault::pack), v -> v.content(10, 2), 359);
        taken("11: the last byte is", end.then(EditionVault::pack), v -> v.row(359), '!');
        taken("11: behind it all is 0", end.then(EditionVault::pack), v -> v.row(360) + v.row(399), 0);
        taken("11: what the last CONTENT had is free", end.then(EditionVault::pack), v -> v.count(7), 40);
    }

    private static void promise12() {
        for (int place : new int[] {LEAST, -1, 400, MOST}) {
            refused("12: place " + place, FORKED, v -> v.spoil(place, 1), NONE);
        }
        for (int value : new int[] {LEAST, -1, 256, MOST}) {
            refused("12: v " + value, FORKED, v -> v.spoil(0, value), NONE);
            refused("12: v " + value + ", free", FORKED, v -> v.spoil(399, value), NONE);
        }
        EditionVault v = forked();
        due("12: the first place, 0", v.spoil(0, 0), 'o');
        due("12: it was 0", v.spoil(0, 255), 0);
        due("12: it was 255", v.spoil(0, 'o'), 255);
        due("12: WHOLE again", v.count(8), 0);
        due("12: the last place, 255", v.spoil(399, 255), 0);
        due("12: it is", v.row(399), 255);
        due("12: free ones spoil none", v.count(8), 0);
        due("12: as it was", v.spoil(1, 'n'), 'n');
        due("12: as it was, WHOLE", v.count(8), 0);
    }

    private static void promise13() {
        for (int n : new int[] {LEAST, -1, 41, MOST}) {
            refused("13: n " + n, CHAINED.with("a" + LONG), v -> v.mend(0, n), NONE);
            refused("13: NONE ahead of -2, n " + n, CHAINED.with("a" + LONG), v -> v.mend(9, n), NONE);
        }
        refused("13: it has not so many", CHAINED.with("abcdefghijklmnopqrst"), v -> v.mend(0, 21), NONE);
        refused("13: it has none", CHAINED, v -> v.mend(0, 1), NONE);
        refused("13: it has none, 40", CHAINED, v -> v.mend(0, 40), NONE);
        refusedTapeGone("13: it has just so many", CHAINED.with("abcdefghijklmnopqrst"), v -> v.mend(0, 20), -3);
        for (int content : new int[] {LEAST, -1, 4, 39, 40, MOST}) {
            refusedTapeGone("13: none such, " + content, CHAINED.with(LONG), v -> v.mend(content, 40), -2);
            refusedTapeGone("13: none such, no bytes, " + content, CHAINED.with(LONG), v -> v.mend(content, 0), -2);
        }
        refusedTapeGone("13: it went", FORKED.then(v -> v.drop(1)).with("TWO??"), v -> v.mend(2, 5), -2);
        refusedTapeGone("13: one byte less", CHAINED.with(LONG), v -> v.mend(0, 39), -3);
        refusedTapeGone("13: none", CHAINED.with(LONG), v -> v.mend(0, 0), -3);
        String b = "#" + LONG.substring(0, 30) + "#";
        refusedTapeGone("13: one byte more", CHAINED.with(b + "#"), v -> v.mend(1, 33), -3);
        refusedTapeGone("13: another MARK", CHAINED.with("#" + b), v -> v.mend(1, 32), -3);
        refusedTapeGone("13: its MARK, one byte more", FORKED.with(marked(mark("one"))), v -> v.mend(0, 4), -3);
        refusedTapeGone("13: its MARK, three bytes less", FORKED.with(marked(mark("ONE1234"))), v -> v.mend(4, 4), -3);
        refusedTapeGone("13: its MARK, 28 less, -3 ahead of -4", CHAINED.with(marked(mark(b))), v -> v.mend(1, 4), -3);
        taken("13: n 0", NEW.written("a", "").then(EditionVault::commit).with("x"), v -> v.mend(0, 0), 1);
        taken("13: n 0, the tape", NEW.written("a", "").then(EditionVault::commit).with("x").then(v -> v.mend(0, 0)), v -> v.count(11), 0);
        taken("13: n 0, no tape", NEW.written("a", "").then(EditionVault::commit), v -> v.mend(0, 0), 1);
        taken("13: n 40", CHAINED.then(v -> v.spoil(39, 0)).with(LONG), v -> v.mend(0, 40), 1);
        taken("13: one that is WHOLE", CHAINED.with(b), v -> v.mend(1, 32), 1);
        refusedTapeGone("13: its BASE is SPOILT", CHAINED.then(v -> v.spoil(39, 0)).with(b), v -> v.mend(1, 32), -4);
        refusedTapeGone("13: its BASE can't be READ", CHAINED.then(v -> v.spoil(40, 0)).with(b + "+"), v -> v.mend(2, 33), -4);
        refusedTapeGone("13: -3 ahead of -4", CHAINED.then(v -> v.spoil(39, 0)).with(b + "!"), v -> v.mend(1, 33), -3);
        // a byte more and 31 less behind it keep the mark, but break the run of the base
        String alike = "#" + "bC" + LONG.substring(2, 30) + "#";
        due("13: of like MARK", mark(alike), mark(b));
        refusedTapeGone("13: PIECES take other room", CHAINED.with(alike), v -> v.mend(1, 32), -4);
        EditionVault v = CHAINED.then(w -> w.spoil(45, 0)).with(b).make();
        due("13: the PIECES", v.mend(1, 32), 1);
        dueRow("13: the PIECES", v, 40, 1, '#', 128, 30, 1, '#');
        due("13: all are WHOLE", v.count(8), 0);
        String other = "bC" + LONG.substring(2);
        due("13: of like MARK, PLAIN", mark(other), mark(LONG));
        due("13: PLAIN, other BYTES of its MARK", mend(v, 0, other), 1);
        due("13: PLAIN, they are KEPT", v.row(1), 'C');
        due("13: all MARKS are as told", v.count(8), 0);
    }

    private static void promise14() {
        taken("14: none there", NEW, EditionVault::cure, 0);
        refused("14: none is SPOILT", CHAINED, EditionVault::cure, 0);
        refused("14: no FILES", CHAINED.then(v -> v.spoil(0, 0)).then(v -> remove(v, "a")).then(v -> remove(v, "b"))
            .then(v -> remove(v, "c")).then(v -> remove(v, "d")), EditionVault::cure, 0);
        refused("14: a BASE that none mends", CHAINED.then(v -> v.spoil(0, 0)).then(v -> remove(v, "a")), EditionVault::cure, 0);
        refused("14: one of like length", FORKED.then(v -> v.spoil(4, 0)).written("b/c", "two?"), EditionVault::cure, 0);
        refused("14: one of like MARK", FORKED.then(v -> v.spoil(18, 0)).written("a", marked(mark("ONE1234"))),
            EditionVault::cure, 0);
        taken("14: the last FILE", CHAINED.then(v -> v.spoil(50, 9)), EditionVault::cure, 1);
        taken("14: the first FILE", CHAINED.then(v -> v.spoil(0, 9)), EditionVault::cure, 1);
        taken("14: none is SPOILT then", CHAINED.then(v -> v.spoil(0, 9)).then(EditionVault::cure), v -> v.count(8), 0);
        Start all = CHAINED.then(v -> v.spoil(0, 9)).then(v -> v.spoil(40, 9)).then(v -> v.spoil(46, 9)).then(v -> v.spoil(50, 9));
        taken("14: all four", all, EditionVault::cure, 4);
        taken("14: all four are WHOLE", all.then(EditionVault::cure), v -> v.count(8), 0);
        taken("14: all but the first", all.then(v -> remove(v, "a")), EditionVault::cure, 0);
        taken("14: all but the last", all.then(v -> remove(v, "d")), EditionVault::cure, 3);
        taken("14: all but the last, it alone is SPOILT", all.then(v -> remove(v, "d")).then(EditionVault::cure), v -> v.count(8), 1);
        // number 0 is by 1: the first time its base is spoilt
        Start greater = zeroByOne().then(v -> v.spoil(v.content(0, 2), 9)).then(v -> v.spoil(v.content(1, 2), 9));
        taken("14: by one of a greater number", greater, v -> v.content(0, 4), 1);
        taken("14: again, till none is", greater, EditionVault::cure, 2);
        // of two files with the length and mark the first is another one
        EditionVault v = new EditionVault();
        write(v, "a", "abcdefgh");
        write(v, "b", "abcdefx");
        v.commit();
        v.spoil(8, 0);
        due("14: of like MARK", mark("abcdegY"), mark("abcdefx"));
        write(v, "a", "abcdegY");
        write(v, "c", "abcdefgh");
        due("14: a FILE whose PIECES take other room", v.cure(), 1);
        due("14: the next one", v.at(0, 1, true, 6), 'x');
    }

    /** Content 0 came behind 1, by which it is. */
    private static Start zeroByOne() {
        return NEW.written("a", "1").then(EditionVault::commit).written("b", LONG).then(EditionVault::commit)
            .then(v -> remove(v, "a")).then(EditionVault::commit).then(v -> v.drop(0)).then(v -> v.drop(1))
            .written("c", "-" + LONG.substring(5)).then(EditionVault::commit);
    }

    private static void promise15() {
        for (int place : new int[] {LEAST, -1, 400, MOST}) {
            refused("15: place " + place, CHAINED, v -> v.risk(place, 0), NONE);
            refused("15: place " + place + ", what 1", CHAINED, v -> v.risk(place, 1), NONE);
        }
        for (int what : new int[] {LEAST, -1, 2, MOST}) {
            refused("15: what " + what, CHAINED, v -> v.risk(0, what), NONE);
            refused("15: what " + what + ", free", CHAINED, v -> v.risk(399, what), NONE);
        }
        int[][] due = {{0, 4, 10}, {39, 4, 10}, {40, 3, 6}, {45, 3, 6}, {46, 2, 3}, {49, 2, 3}, {50, 1, 1}, {53, 1, 1},
            {54, 0, 0}, {399, 0, 0}};
        for (int[] d : due) {
            taken("15: CONTENTS on " + d[0], CHAINED, v -> v.risk(d[0], 0), d[1]);
            taken("15: PATHS on " + d[0], CHAINED, v -> v.risk(d[0], 1), d[2]);
        }
        Start based = CHAINED.then(v -> remove(v, "a")).then(EditionVault::commit).then(v -> v.thin(1));
        taken("15: a BASE that no LIST has", based, v -> v.risk(0, 0), 4);
        taken("15: a BASE that no LIST has, PATHS", based, v -> v.risk(0, 1), 3);
        taken("15: a full ROW, the last byte", nineAnd(40), v -> v.risk(399, 0), 1);
        taken("15: on the BASE of CONTENT 0", zeroByOne(), v -> v.risk(v.content(1, 2), 0), 2);
        taken("15: on the BASE of CONTENT 0, PATHS", zeroByOne(), v -> v.risk(v.content(1, 2), 1), 3);
        taken("15: on CONTENT 0", zeroByOne(), v -> v.risk(v.content(0, 2), 0), 1);
        taken("15: two PATHS of one LIST", NEW.written("a", "!").written("b", "!").then(EditionVault::commit), v -> v.risk(0, 1), 2);
        taken("15: all 120 PATHS", hundredAndTwenty(), v -> v.risk(39, 1), 120);
        EditionVault twice = hundredAndTwenty().make();
        due("15: all of ten", twice.risk(0, 1), 120);
        twice.drop(9);
        due("15: all of nine", twice.risk(0, 1), 108);
        due("15: all of nine, CONTENTS", twice.risk(0, 0), 1);
        taken("15: all 40 CONTENTS", fortyByOne(), v -> v.risk(0, 0), 40);
    }

    /** Ten editions of twelve files each, all of one content, of 40 bytes. */
    private static Start hundredAndTwenty() {
        return NEW.then(v -> {
            for (int i = 0; i < 12; i++) {
                write(v, letter(i), LONG);
            }
            for (int i = 0; i < 10; i++) {
                v.commit();
                move(v, letter(11 + i), letter(12 + i));
            }
            return 0;
        });
    }

    /** Forty contents, all of them by the first. */
    private static Start fortyByOne() {
        return NEW.then(v -> {
            for (int i = 0; i < 40; i++) {
                write(v, letter(i % 10), LONG.substring(0, 30) + (char) (200 + i));
                if (i % 10 == 9) {
                    v.commit();
                }
            }
            return 0;
        });
    }

    private static void promise16() {
        for (int what : new int[] {LEAST, -1, 2, MOST}) {
            refused("16: what " + what, FORKED, v -> v.weakest(what), NONE);
            refused("16: what " + what + ", none", NEW, v -> v.weakest(what), NONE);
        }
        Start[] nones = {NEW, NEW.then(EditionVault::commit), NEW.written("a", "").then(EditionVault::commit),
            editions(1).then(v -> v.drop(0)), staged(12)};
        for (int i = 0; i < nones.length; i++) {
            taken("16: on none any hangs, " + i, nones[i], v -> v.weakest(0), -2);
            taken("16: on none any hangs, how many, " + i, nones[i], v -> v.weakest(1), 0);
        }
        taken("16: one", editions(1), v -> v.weakest(0), 0);
        taken("16: one, how many", editions(1), v -> v.weakest(1), 1);
        taken("16: of like ones the least", nineAnd(40), v -> v.weakest(0), 0);
        taken("16: how many", nineAnd(40), v -> v.weakest(1), 1);
        Start last = nineAnd(39).written("k", "!").written("l", "!").then(EditionVault::commit).then(v -> v.drop(0));
        taken("16: the last byte", last, v -> v.weakest(0), 399);
        taken("16: the last byte, how many", last, v -> v.weakest(1), 2);
        taken("16: 120", hundredAndTwenty(), v -> v.weakest(1), 120);
    }

    private static void promise17() {
        for (int bytes : new int[] {LEAST, -1, 401, MOST}) {
            refused("17: bytes " + bytes, FORKED, v -> v.drops(bytes, 0), NONE);
            refused("17: NONE ahead of -2, bytes " + bytes, NEW, v -> v.drops(bytes, 1), NONE);
        }
        for (int what : new int[] {LEAST, -1, 3, MOST}) {
            refused("17: what " + what, FORKED, v -> v.drops(1, what), NONE);
            refused("17: NONE ahead of -2, what " + what, NEW, v -> v.drops(400, what), NONE);
        }
        dueDrops("no EDITIONS", NEW, 0, 0, 0, 0);
        dueDrops("no EDITIONS, 1", NEW, 1, -2, -2, -2);
        dueDrops("no EDITIONS, 400", NEW, 400, -2, -2, -2);
        dueDrops("a full ROW", nineAnd(40), 400, 1, 1, 400);
        dueDrops("all but a byte", nineAnd(39), 399, 1, 1, 399);
        dueDrops("a byte more than all", nineAnd(39), 400, -2, -2, -2);
        dueDrops("none of ten", editions(10), 0, 0, 0, 0);
        dueDrops("one of ten", editions(10), 1, 1, 1, 1);
        dueDrops("nine of ten", editions(10), 9, 9, 511, 9);
        dueDrops("ten of ten", editions(10), 10, 10, 1023, 10);
        dueDrops("eleven of ten", editions(10), 11, -2, -2, -2);
        Start sealed = editions(10).then(v -> v.seal(0, true)).then(v -> v.seal(9, true));
        dueDrops("one that is not SEALED", sealed, 1, 1, 2, 1);
        dueDrops("eight that are not SEALED", sealed, 8, 8, 510, 8);
        dueDrops("none SEALED", sealed, 9, -2, -2, -2);
        dueDrops("all SEALED, 0", editions(1).then(v -> v.seal(0, true)), 0, 0, 0, 0);
        dueDrops("all SEALED, 1", editions(1).then(v -> v.seal(0, true)), 1, -2, -2, -2);
        // 0: 3 and 4 bytes, 1 has the 3, 5 and 6 more, 2 has the 4, 7 more
        dueDrops("more than asked for", FORKED, 8, 1, 2, 11);
        dueDrops("just", FORKED, 11, 1, 2, 11);
        dueDrops("a byte more needs two", FORKED, 12, 2, 3, 14);
        dueDrops("two, of as few the least", FORKED, 14, 2, 3, 14);
        dueDrops("two", FORKED, 15, 2, 6, 18);
        dueDrops("two, just", FORKED, 18, 2, 6, 18);
        dueDrops("three", FORKED, 19, 3, 7, 25);
        dueDrops("by order, not by number", FORKED.then(v -> v.drop(0)), 11, 1, 1, 14);
        dueDrops("what is a BASE stays", CHAINED, 54, 4, 15, 54);
        dueDrops("the last alone", CHAINED, 1, 1, 8, 4);
    }

    private static void dueDrops(String what, Start start, int bytes, int few, int which, int less) {
        taken("17: " + what + ", how many", start, v -> v.drops(bytes, 0), few);
        taken("17: " + what + ", which", start, v -> v.drops(bytes, 1), which);
        taken("17: " + what + ", how many bytes", start, v -> v.drops(bytes, 2), less);
    }

    private static void promise18() {
        for (int latest : new int[] {LEAST, -1, 11, MOST}) {
            refused("18: " + latest, editions(10), v -> v.thin(latest), NONE);
        }
        taken("18: none is there", NEW, v -> v.thin(0), 0);
        refused("18: none is there, 10", NEW, v -> v.thin(10), 0);
        refused("18: all ten stay", editions(10), v -> v.thin(10), 0);
        refused("18: more than there are", editions(9), v -> v.thin(10), 0);
        refused("18: just so many", editions(9), v -> v.thin(9), 0);
        taken("18: one less", editions(9), v -> v.thin(8), 1);
        taken("18: the oldest went", editions(9).then(v -> v.thin(8)), v -> v.edition(0), 1);
        taken("18: the latest alone", editions(10), v -> v.thin(1), 9);
        taken("18: the latest is there", editions(10).then(v -> v.thin(1)), v -> v.edition(0), 9);
        taken("18: all", editions(10), v -> v.thin(0), 10);
        taken("18: none is left", editions(10).then(v -> v.thin(0)), v -> v.count(3), 0);
        Start sealed = editions(5).then(v -> v.seal(0, true)).then(v -> v.seal(4, true));
        taken("18: SEALED ones aside", sealed, v -> v.thin(0), 3);
        taken("18: SEALED ones stay", sealed.then(v -> v.thin(0)), v -> v.count(3), 2);
        taken("18: what was OF those", sealed.then(v -> v.thin(0)), v -> v.of(4, 0), 0);
        taken("18: SEALED ones are among the latest", sealed, v -> v.thin(2), 2);
        refused("18: all SEALED", editions(1).then(v -> v.seal(0, true)), v -> v.thin(0), 0);
    }

    private static void promise19() {
        taken("19: none", NEW, EditionVault::thrift, 0);
        taken("19: no BYTES", NEW.written("a", "").then(EditionVault::commit), EditionVault::thrift, 0);
        taken("19: those of THE STAGE are none", staged(3), EditionVault::thrift, 0);
        taken("19: just 400", nineAnd(40), EditionVault::thrift, 400);
        taken("19: 399", nineAnd(39), EditionVault::thrift, 399);
        taken("19: just 400, less as it is", () -> thirds(193), EditionVault::thrift, 400);
        taken("19: how many it is", () -> thirds(193), v -> v.count(6), 340);
        refused("19: there were no room", () -> thirds(194), EditionVault::thrift, -3);
        refused("19: one is SPOILT", FORKED.then(v -> v.spoil(v.content(4, 2), 0)), EditionVault::thrift, -2);
        Start none = () -> thirds(9 * 27);
        refused("19: no room for 10, 11 is SPOILT", none.then(v -> v.spoil(v.content(11, 2) + 39, 0)), EditionVault::thrift, -3);
        refused("19: 10 has no room and is SPOILT", none.then(v -> v.spoil(v.content(10, 2) + 39, 0)), EditionVault::thrift, -2);
        refused("19: 9 is SPOILT, 10 has no room", none.then(v -> v.spoil(v.content(9, 2) + 39, 0)), EditionVault::thrift, -2);
        Start based = CHAINED.then(v -> remove(v, "a")).then(EditionVault::commit).then(v -> v.thin(1));
        taken("19: a BASE that no LIST has is none of them", based, EditionVault::thrift, 32 + 4 + 4);
        taken("19: it is SPOILT", based.then(v -> v.spoil(39, 0)), EditionVault::thrift, 32 + 4 + 4);
        taken("19: as it is", CHAINED, EditionVault::thrift, 54);
        String e = "#" + LONG.substring(0, 30) + "#+-!";
        taken("19: a DEPTH of 3 at most", CHAINED.written("e", e).then(EditionVault::commit), EditionVault::thrift, 54 + 5);
        taken("19: by one of a DEPTH of 2", CHAINED.written("e", e).then(EditionVault::commit), v -> v.content(4, 4), 2);
        taken("19: forty", fortyByOne(), EditionVault::thrift, 31 + 39 * 4);
    }

    private static void promise20() {
        for (int content : new int[] {LEAST, -1, 4, 39, 40, MOST}) {
            refused("20: no such content, " + content, CHAINED, v -> v.pieces(content, 0), NONE);
            refused("20: no such base, " + content, CHAINED, v -> v.pieces(0, content), NONE);
            refused("20: NONE ahead of -2, " + content, CHAINED.then(v -> v.spoil(0, 0)), v -> v.pieces(0, content), NONE);
            refused("20: NONE ahead of -2, the other, " + content, CHAINED.then(v -> v.spoil(0, 0)), v -> v.pieces(content, 0), NONE);
        }
        refused("20: the one is SPOILT", CHAINED.then(v -> v.spoil(53, 0)), v -> v.pieces(3, 0), -2);
        refused("20: the other is SPOILT", CHAINED.then(v -> v.spoil(53, 0)), v -> v.pieces(0, 3), -2);
        refused("20: by itself, SPOILT", CHAINED.then(v -> v.spoil(53, 0)), v -> v.pieces(3, 3), -2);
        taken("20: others are not", CHAINED.then(v -> v.spoil(53, 0)), v -> v.pieces(2, 0), 7);
        taken("20: by itself", CHAINED, v -> v.pieces(0, 0), 2);
        taken("20: the last number", fortyByOne(), v -> v.pieces(39, 39), 2);
        String[] some = {"", "a", "ab", "abc"};
        int[] want = {0, 2, 3, 2};
        for (int i = 0; i < some.length; i++) {
            taken("20: by itself, " + some[i], NEW.written("a", some[i]).then(EditionVault::commit), v -> v.pieces(0, 0), want[i]);
        }
        Start plain = NEW.written("a", stepped(3, 40)).written("b", stepped(5, 40)).then(EditionVault::commit);
        taken("20: longer than its BYTES", plain, v -> v.pieces(0, 1), 41);
    }

    private static void promise21() {
        wordsRefused("21: p", FORKED, p -> v -> v.fetch(0, p));
        wordsRefused("21: p, no such EDITION", FORKED, p -> v -> v.fetch(9, p));
        for (int edition : new int[] {LEAST, -2, -1, 3, MOST}) {
            refusedTapeGone("21: no such EDITION, " + edition, FORKED.with("a"), v -> v.fetch(edition, 1), -2);
            refusedTapeGone("21: -2 ahead of -3, " + edition, FORKED.with("a/"), v -> v.fetch(edition, 2), -2);
        }
        refusedTapeGone("21: it went", FORKED.then(v -> v.drop(0)).with("a"), v -> v.fetch(0, 1), -2);
        for (String p : NO_PATHS) {
            refusedTapeGone("21: no PATH: " + p, FORKED.with(p), v -> v.fetch(0, p.length()), -3);
        }
        for (String p : new String[] {"d", "aa", "a/b", "b/cd", "b/c/d", "c", "b/"}) {
            refusedTapeGone("21: the EDITION has none: " + p, FORKED.with(p), v -> v.fetch(0, p.length()), -3);
        }
        refusedTapeGone("21: THE STAGE has one, it has none", FORKED.written("d", "").with("d"), v -> v.fetch(0, 1), -3);
        refusedTapeGone("21: -3 ahead of -4", FORKED.then(v -> v.spoil(0, 0)).with("d"), v -> v.fetch(0, 1), -3);
        refusedTapeGone("21: -3 ahead of -5", FORKED.written("d", "").with("d/e"), v -> v.fetch(1, 3), -3);
        refusedTapeGone("21: SPOILT", FORKED.then(v -> v.spoil(0, 0)).with("a"), v -> v.fetch(0, 1), -4);
        taken("21: another one is SPOILT", FORKED.then(v -> v.spoil(0, 0)).with("b"), v -> v.fetch(0, 1), 1);
        Start below = FORKED.then(v -> remove(v, "b")).written("b", "").with("b/c");
        refusedTapeGone("21: it would be below another one", below, v -> v.fetch(0, 3), -5);
        refusedTapeGone("21: -4 ahead of -5", FORKED.then(v -> remove(v, "b")).written("b", "").then(v -> v.spoil(3, 0)).with("b/c"),
            v -> v.fetch(0, 3), -4);
        taken("21: that one goes", FORKED.then(v -> remove(v, "b")).written("b", "").with("b"), v -> v.fetch(0, 1), 1);
        taken("21: those below it go", FORKED.then(v -> remove(v, "a")).written("a/b", "").written("a/c", "").with("a"),
            v -> v.fetch(0, 1), 1);
        promise21Full();
    }

    private static void promise21Full() {
        Start twelve = below(12).then(EditionVault::commit);
        taken("21: twelve come, twelve go", twelve.with("a"), v -> v.fetch(0, 1), 12);
        taken("21: twelve come, none go", twelve.then(v -> remove(v, "a")).with("a"), v -> v.fetch(0, 1), 12);
        taken("21: one comes, it goes", twelve.with("a/c"), v -> v.fetch(0, 3), 1);
        taken("21: the twelfth comes", twelve.then(v -> remove(v, "a/c")).with("a/c"), v -> v.fetch(0, 3), 1);
        Start other = twelve.then(v -> remove(v, "a/c")).written("b", "");
        refusedTapeGone("21: a thirteenth", other.with("a/c"), v -> v.fetch(0, 3), -5);
        refusedTapeGone("21: twelve, eleven of them go", other.with("a"), v -> v.fetch(0, 1), -5);
        refusedTapeGone("21: -4 ahead of -5, more than 12", other.then(v -> v.spoil(0, 1)).with("a"), v -> v.fetch(0, 1), -4);
        refusedTapeGone("21: -2 ahead of -5", other.with("a"), v -> v.fetch(1, 1), -2);
        refusedTapeGone("21: -3 ahead of -5", other.with("c"), v -> v.fetch(0, 1), -3);
        EditionVault v = other.then(w -> remove(w, "b")).with("a/c").make();
        v.fetch(0, 3);
        due("21: in order", v.at(-1, 2, false, 2), 'c');
        due("21: its BYTES", v.at(-1, 2, true, 0), 'c');
        due("21: THE STAGE is still OF it", v.count(1), 0);
        EditionVault w = FORKED.written("b/d", "!").written("b/a/a", "?").written("bb", "").make();
        due("21: one comes, three go", fetch(w, 1, "b"), 1);
        dueFiles("21: one comes, three go", w, -1, "a=ONE1234 b/c=TWO?? bb=");
        due("21: the first comes", fetch(w, 1, "a"), 1);
        dueFiles("21: the first comes", w, -1, "a=one b/c=TWO?? bb=");
        due("21: the last comes", fetch(w, 1, "d"), 1);
        dueFiles("21: the last comes", w, -1, "a=one b/c=TWO?? bb= d=four44");
        Start one = below(1).then(EditionVault::commit).then(x -> remove(x, "a")).written("a", "");
        refusedTapeGone("21: the only one would be below another one", one.with("a/a"), x -> x.fetch(0, 3), -5);
        taken("21: 0 of it, CONTENT", one.with("a"), x -> x.fetch(0, 1), 1);
    }

    /** So many files below "a", each with its letter as its bytes. */
    private static Start below(int files) {
        return NEW.then(v -> {
            for (int i = 0; i < files; i++) {
                write(v, "a/" + letter(i), letter(i));
            }
            return 0;
        });
    }

    private static void promise22() {
        Start some = NEW.then(v -> {
            for (String p : new String[] {"a", "ab", "abc", "b/a", "b/ab", "abcdefghijkl", "c/a/b"}) {
                write(v, p, "");
            }
            return v.commit();
        });
        wordsRefused("22: q", some, q -> v -> v.like(0, q, -1));
        for (int edition : new int[] {LEAST, -2, -1, 1, MOST}) {
            refused("22: no such EDITION, " + edition, some.with("z*"), v -> v.like(edition, 2, -1), NONE);
            refused("22: no such EDITION, NONE ahead of -2, " + edition, some.with("A"), v -> v.like(edition, 1, 0), NONE);
        }
        for (int k : new int[] {LEAST, -2}) {
            refused("22: k " + k, some.with("z*"), v -> v.like(0, 2, k), NONE);
            refused("22: NONE ahead of -2, k " + k, some.with("A"), v -> v.like(0, 1, k), NONE);
        }
        for (String other : new String[] {")", "+", ">", "@", ".", "0", "`", "{", "A", "Z", " ", "\0", "\u00ff", "\u00aa", "\u00bf",
            "\u00e1", "\u00af"}) {
            refused("22: another byte, " + other, some.with(other), v -> v.like(0, 1, -1), -2);
            refused("22: another byte ahead, " + other, some.with(other + "zzz"), v -> v.like(0, 4, -1), -2);
            refused("22: another byte behind, " + other, some.with("zzzzzzzzzzz" + other), v -> v.like(0, 12, -1), -2);
            refused("22: -2 ahead of -3, " + other, some.with("z" + other), v -> v.like(0, 2, 12), -2);
            taken("22: what is behind it is not looked at, " + other, some.with("a" + other), v -> v.like(0, 1, 0), 0);
        }
        String[] patterns = {"?", "??", "*", "a*", "?*", "*?", "**", "a", "abcdefghijkl", "????????????", "???????????",
            "************", "*/*", "?/?", "b/a*", "b/*", "*/a/*", "/", "//", "b/", "*/", "b?a", "b*a", "c*b", "a?c", "a*c", "???*", "*c"};
        int[] many = {1, 1, 4, 4, 4, 4, 4, 1, 1, 1, 0, 4, 2, 1, 2, 2, 1, 0, 0, 0, 0, 0, 0, 0, 1, 1, 2, 1};
        for (int i = 0; i < patterns.length; i++) {
            String p = patterns[i];
            int n = p.length();
            int found = many[i];
            taken("22: how many are like " + p, some.with(p), v -> v.like(0, n, -1), found);
            refused("22: not so many like " + p, some.with(p), v -> v.like(0, n, found), -3);
            refused("22: not so many by far like " + p, some.with(p), v -> v.like(0, n, MOST), -3);
        }
        // a ab abc abcdefghijkl b/a b/ab c/a/b
        taken("22: the first", some.with("*"), v -> v.like(0, 1, 0), 0);
        taken("22: the last of four", some.with("*"), v -> v.like(0, 1, 3), 3);
        taken("22: the last of two", some.with("*/*"), v -> v.like(0, 3, 1), 5);
        taken("22: the last", some.with("?/?/?"), v -> v.like(0, 5, 0), 6);
        taken("22: the tape stays", some.with("*").then(v -> v.like(0, 1, -1)), v -> v.count(11), 20);
        taken("22: no FILES", NEW.then(EditionVault::commit).with("*"), v -> v.like(0, 1, -1), 0);
        refused("22: no FILES, none", NEW.then(EditionVault::commit).with("*"), v -> v.like(0, 1, 0), -3);
        taken("22: twelve FILES", staged(12).then(EditionVault::commit).with("?"), v -> v.like(0, 1, 11), 11);
    }

    private static void promise23() {
        for (int what : new int[] {LEAST, -1, 15, MOST}) {
            refused("23: what " + what, FORKED, v -> v.count(what), NONE);
        }
        taken("23: FILES, 12", staged(12), v -> v.count(0), 12);
        taken("23: EDITIONS, 10", editions(10), v -> v.count(3), 10);
        taken("23: the next number, 10", editions(10), v -> v.count(4), 10);
        taken("23: CONTENTS, 40", fortyLess(0), v -> v.count(5), 40);
        taken("23: KEPT bytes, 400", nineAnd(40), v -> v.count(6), 400);
        taken("23: no run of free bytes", nineAnd(40), v -> v.count(7), 0);
        taken("23: a run of one at the end", nineAnd(39), v -> v.count(7), 1);
        taken("23: runs of one between", scattered(), v -> v.count(7), 1);
        Start front = nineAnd(40).then(v -> remove(v, "a")).then(EditionVault::commit).then(v -> v.drop(0));
        taken("23: a run at the front", front, v -> v.count(7), 40);
        taken("23: all 120 are TOUCHED", hundredAndTwenty().then(v -> v.spoil(39, 0)), v -> v.count(9), 120);
        taken("23: one is SPOILT", hundredAndTwenty().then(v -> v.spoil(39, 0)), v -> v.count(8), 1);
        taken("23: all forty are SPOILT", fortyByOne().then(v -> v.spoil(0, 0)), v -> v.count(8), 40);
        taken("23: bytes of all", hundredAndTwenty(), v -> v.count(10), 4800);
        taken("23: bytes of all, SPOILT", hundredAndTwenty().then(v -> v.spoil(39, 0)), v -> v.count(10), 4800);
        taken("23: CONTENTS by a BASE, 39", fortyByOne(), v -> v.count(12), 39);
        taken("23: the greatest DEPTH, 3", CHAINED, v -> v.count(13), 3);
        taken("23: the greatest DEPTH, 1", fortyByOne(), v -> v.count(13), 1);
        taken("23: CONTENT 0 by a BASE", zeroByOne(), v -> v.count(12), 1);
        taken("23: the DEPTH of CONTENT 0", zeroByOne(), v -> v.count(13), 1);
        taken("23: CONFLICTS, 12", unrelated().then(v -> v.join(1, 2)), v -> v.count(14), 12);
        taken("23: OF 0", editions(1), v -> v.count(1), 0);
        taken("23: ALSO OF 0", editions(1).then(v -> v.join(0, 0)), v -> v.count(2), 0);
        taken("23: ALSO OF none", editions(1), v -> v.count(2), -2);
        taken("23: a tape of 160", NEW.with("a".repeat(160)), v -> v.count(11), 160);
    }

    private static void promise24() {
        for (int i : new int[] {LEAST, -2, -1, 10, MOST}) {
            refused("24: i " + i, editions(10), v -> v.edition(i), NONE);
        }
        refused("24: none", NEW, v -> v.edition(0), NONE);
        refused("24: not so many", editions(9), v -> v.edition(9), NONE);
        taken("24: the first", editions(10), v -> v.edition(0), 0);
        taken("24: the tenth", editions(10), v -> v.edition(9), 9);
        taken("24: one went", editions(10).then(v -> v.drop(4)), v -> v.edition(4), 5);
        taken("24: one went, the last", editions(10).then(v -> v.drop(4)), v -> v.edition(8), 9);
        refused("24: one went, not so many", editions(10).then(v -> v.drop(4)), v -> v.edition(9), NONE);
    }

    private static void promise25() {
        for (int what : new int[] {LEAST, -1, 9, MOST}) {
            refused("25: what " + what, FORKED, v -> v.of(0, what), NONE);
        }
        for (int edition : new int[] {LEAST, -2, -1, 3, MOST}) {
            for (int what = 0; what < 9; what++) {
                int w = what;
                taken("25: no such EDITION, " + edition + ", what " + what, FORKED, v -> v.of(edition, w), NONE);
            }
        }
        refused("25: it went", FORKED.then(v -> v.drop(1)), v -> v.of(1, 0), NONE);
        int[] none = {-2, -2, 0, 0, 0, 1, 7, 0, 0};
        for (int what = 0; what < 9; what++) {
            int w = what;
            taken("25: an EDITION of nothing, what " + what, NEW.then(EditionVault::commit), v -> v.of(0, w), none[w]);
        }
        taken("25: ten ANCESTORS", editions(10), v -> v.of(9, 5), 10);
        taken("25: OF 0", editions(2), v -> v.of(1, 0), 0);
        taken("25: ALSO OF 0", editions(1).then(v -> v.join(0, 0)).then(EditionVault::commit), v -> v.of(1, 1), 0);
        taken("25: the same twice is one ANCESTOR", editions(1).then(v -> v.join(0, 0)).then(EditionVault::commit), v -> v.of(1, 5), 2);
        taken("25: 12 FILES", hundredAndTwenty(), v -> v.of(9, 2), 12);
        taken("25: 480 BYTES", hundredAndTwenty(), v -> v.of(9, 3), 480);
        taken("25: ALONE none", hundredAndTwenty(), v -> v.of(9, 4), 0);
        taken("25: ALONE all", nineAnd(40), v -> v.of(0, 4), 400);
        taken("25: ALONE, with the BASES that none has then", CHAINED.then(v -> v.drop(2)).then(v -> v.drop(1)).then(v -> v.drop(0)),
            v -> v.of(3, 4), 54);
        taken("25: ALONE, a BASE of what stays", CHAINED, v -> v.of(0, 4), 0);
        taken("25: MARK of the longest text", longest(), v -> v.of(0, 6), mark(longestText()));
        taken("25: SEALED", FORKED.then(v -> v.seal(1, true)), v -> v.of(1, 7), 1);
        taken("25: SEALED not any more", FORKED.then(v -> v.seal(1, true)).then(v -> v.seal(1, false)), v -> v.of(1, 7), 0);
        taken("25: a NAME of 1", FORKED.then(v -> name(v, 1, "a")), v -> v.of(1, 8), 1);
        taken("25: a NAME of 12", FORKED.then(v -> name(v, 1, "abcdefghijkl")), v -> v.of(1, 8), 12);
    }

    /** Twelve paths of twelve bytes, marks of five digits. */
    private static Start longest() {
        return NEW.then(v -> {
            for (int i = 0; i < 12; i++) {
                write(v, "abcdefghijk" + letter(i), marked(65520 - i));
            }
            return v.commit();
        });
    }

    private static String longestText() {
        StringBuilder s = new StringBuilder();
        for (int i = 0; i < 12; i++) {
            s.append("abcdefghijk").append(letter(i)).append('=').append(65520 - i).append(';');
        }
        return s.toString();
    }

    private static void promise26() {
        for (int edition : new int[] {LEAST, -2, -1, 3, MOST}) {
            refused("26: none such, " + edition, FORKED, v -> v.seal(edition, true), -2);
            refused("26: none such, -2 ahead of -3, " + edition, FORKED, v -> v.seal(edition, false), -2);
        }
        refused("26: it went", FORKED.then(v -> v.drop(1)), v -> v.seal(1, true), -2);
        refused("26: it is not", FORKED, v -> v.seal(0, false), -3);
        refused("26: it is", FORKED.then(v -> v.seal(0, true)), v -> v.seal(0, true), -3);
        refused("26: it is not any more", FORKED.then(v -> v.seal(0, true)).then(v -> v.seal(0, false)), v -> v.seal(0, false), -3);
        taken("26: SEALED", FORKED, v -> v.seal(2, true), 1);
        taken("26: not any more", FORKED.then(v -> v.seal(2, true)), v -> v.seal(2, false), 1);
        taken("26: not at first", FORKED.then(v -> v.seal(2, true)).written("a", "").then(EditionVault::commit), v -> v.of(3, 7), 0);
    }

    private static void promise27() {
        Start named = FORKED.then(v -> name(v, 1, "abcdefghijkl"));
        for (int q : new int[] {LEAST, -1, 13, MOST}) {
            refused("27: q " + q, named.with("zzzzzzzzzzzzz"), v -> v.name(1, q), NONE);
            refused("27: NONE ahead of -2, q " + q, named.with("zzzzzzzzzzzzz"), v -> v.name(3, q), NONE);
        }
        refused("27: it has not so many", named, v -> v.name(1, 1), NONE);
        refused("27: it has not so many, 12", named, v -> v.name(1, 12), NONE);
        refused("27: NONE ahead of -2, not so many", named, v -> v.name(3, 1), NONE);
        for (int edition : new int[] {LEAST, -2, -1, 3, MOST}) {
            refusedTapeGone("27: none such, " + edition, named.with("zz"), v -> v.name(edition, 2), -2);
            refusedTapeGone("27: none such, q 0, " + edition, named.with("zz"), v -> v.name(edition, 0), -2);
            refusedTapeGone("27: -2 ahead of -3, " + edition, named.with("Z"), v -> v.name(edition, 1), -2);
            refusedTapeGone("27: -2 ahead of -4, " + edition, named.with("abcdefghijkl"), v -> v.name(edition, 12), -2);
        }
        for (String s : NO_PATHS) {
            refusedTapeGone("27: no NAME, " + s, named.with(s), v -> v.name(0, s.length()), -3);
        }
        refusedTapeGone("27: no NAME, a/b", named.with("a/b"), v -> v.name(0, 3), -3);
        refusedTapeGone("27: no NAME, the last byte", named.with("abcdefghijk{"), v -> v.name(0, 12), -3);
        refusedTapeGone("27: another one has it", named.with("abcdefghijkl"), v -> v.name(0, 12), -4);
        taken("27: the beginning of another one's", named.with("abcdefghijkl"), v -> v.name(0, 11), 11);
        taken("27: its own", named.with("abcdefghijkl"), v -> v.name(1, 12), 12);
        taken("27: a and z", named.with("az"), v -> v.name(0, 2), 2);
        taken("27: what is behind it is not looked at", named.with("z/"), v -> v.name(0, 1), 1);
        taken("27: nor ahead of 0", named.with("/"), v -> v.name(0, 0), 0);
        taken("27: none", named.with("zz"), v -> v.name(1, 0), 0);
        taken("27: none, the tape is empty", named.with("zz").then(v -> v.name(1, 0)), v -> v.count(11), 0);
        taken("27: none, no tape", named, v -> v.name(1, 0), 0);
        taken("27: none, where there is none", named, v -> v.name(0, 0), 0);
        taken("27: none is left", named.then(v -> v.name(1, 0)), v -> v.of(1, 8), 0);
        taken("27: free again", named.then(v -> v.name(1, 0)).with("abcdefghijkl"), v -> v.name(0, 12), 12);
        taken("27: free by a DROP", named.then(v -> v.drop(1)).with("abcdefghijkl"), v -> v.name(0, 12), 12);
        taken("27: in its place", named.then(v -> name(v, 1, "z")).with("abcdefghijkl"), v -> v.name(0, 12), 12);
        taken("27: a new EDITION has none", FORKED.then(v -> name(v, 2, "z")).then(v -> v.drop(2)).written("a", "")
            .then(EditionVault::commit), v -> v.of(3, 8), 0);
        refusedTapeGone("27: the first one has it", FORKED.then(v -> name(v, 0, "z")).with("z"), v -> v.name(2, 1), -4);
        refusedTapeGone("27: the last one has it", FORKED.then(v -> name(v, 2, "z")).with("z"), v -> v.name(0, 1), -4);
    }

    private static void promise28() {
        Start named = FORKED.then(v -> name(v, 1, "abcdefghijkl")).then(v -> name(v, 2, "z"));
        wordsRefused("28: q", named, q -> v -> v.named(q));
        for (String s : new String[] {"a", "abcdefghijk", "zz", "zbcdefghijkl", "a/b", "/", "A", "{", "\0"}) {
            refused("28: there is none, " + s, named.with(s), v -> v.named(s.length()), -2);
        }
        refused("28: no EDITIONS", NEW.with("a"), v -> v.named(1), -2);
        refused("28: no NAMES", FORKED.with("a"), v -> v.named(1), -2);
        refused("28: no NAMES, no NAME", FORKED.with("/"), v -> v.named(1), -2);
        taken("28: one byte", named.with("zz"), v -> v.named(1), 2);
        taken("28: the first EDITION", FORKED.then(v -> name(v, 0, "z")).with("z"), v -> v.named(1), 0);
        taken("28: twelve bytes", named.with("abcdefghijkl"), v -> v.named(12), 1);
        taken("28: the tape stays", named.with("abcdefghijkl").then(v -> v.named(12)), v -> v.count(11), 20);
        refused("28: it went", named.then(v -> v.drop(2)).with("z"), v -> v.named(1), -2);
        refused("28: another NAME", named.then(v -> name(v, 2, "y")).with("z"), v -> v.named(1), -2);
    }

    private static void promise29() {
        Start named = FORKED.then(v -> name(v, 1, "abcdefghijkl")).then(v -> name(v, 2, "z"));
        for (int edition : new int[] {LEAST, -2, -1, 3, MOST}) {
            refused("29: no such one, " + edition, named, v -> v.nameByte(edition, 0), NONE);
            refused("29: no such one, NONE ahead of -2, " + edition, named, v -> v.nameByte(edition, 12), NONE);
        }
        for (int k : new int[] {LEAST, -1}) {
            refused("29: k " + k, named, v -> v.nameByte(1, k), NONE);
            refused("29: k, NONE ahead of -2, " + k, named, v -> v.nameByte(0, k), NONE);
        }
        for (int k : new int[] {1, 2, 12, MOST}) {
            refused("29: not so many, " + k, named, v -> v.nameByte(2, k), -2);
        }
        for (int k : new int[] {12, 13, 32, 64, MOST}) {
            refused("29: not so many of twelve, " + k, named, v -> v.nameByte(1, k), -2);
        }
        for (int k : new int[] {0, 1, MOST}) {
            refused("29: no NAME, " + k, named, v -> v.nameByte(0, k), -2);
        }
        taken("29: the only byte", named, v -> v.nameByte(2, 0), 'z');
        taken("29: the first", named, v -> v.nameByte(1, 0), 'a');
        taken("29: the last", named, v -> v.nameByte(1, 11), 'l');
    }

    private static void promise30() {
        for (int edition : new int[] {LEAST, -2, -1, 3, MOST}) {
            refused("30: no such EDITION, " + edition, FORKED, v -> v.came(edition, 0), NONE);
        }
        for (int i : new int[] {LEAST, -1, 3, 12, MOST}) {
            refused("30: no such FILE, " + i, FORKED, v -> v.came(1, i), NONE);
        }
        refused("30: no FILES", NEW.then(EditionVault::commit), v -> v.came(0, 0), NONE);
        taken("30: the last FILE", FORKED, v -> v.came(1, 2), 1);
        taken("30: OF none", FORKED, v -> v.came(0, 0), 0);
        taken("30: all ten", hundredAndTwenty(), v -> v.came(9, 0), 0);
        taken("30: the last of ten", hundredAndTwenty(), v -> v.came(9, 11), 9);
        taken("30: one that stayed for a while", hundredAndTwenty(), v -> v.came(9, 10), 0);
        Start gap = editions(1).then(v -> remove(v, "x")).then(EditionVault::commit).written("x", "a").then(EditionVault::commit)
            .written("y", "").then(EditionVault::commit);
        taken("30: not over a gap", gap, v -> v.came(3, 0), 2);
        taken("30: the gap went", gap.then(v -> v.drop(1)), v -> v.came(3, 0), 0);
        Start other = editions(2).written("x", "a").then(EditionVault::commit);
        taken("30: not over another CONTENT", other, v -> v.came(2, 0), 2);
        taken("30: the other one", other, v -> v.came(1, 0), 1);
        taken("30: what it was OF went", other.then(v -> v.drop(1)).then(v -> v.drop(0)), v -> v.came(2, 0), 2);
    }

    private static void promise31() {
        wordsRefused("31: p", FORKED, p -> v -> v.weigh(0, p));
        for (int edition : new int[] {LEAST, -2, -1, 3, MOST}) {
            refused("31: no such EDITION, " + edition, FORKED.with("z"), v -> v.weigh(edition, 1), NONE);
            refused("31: NONE ahead of -2, " + edition, FORKED.with("/"), v -> v.weigh(edition, 1), NONE);
        }
        for (String p : NO_PATHS) {
            refused("31: no PATH, " + p, FORKED.with(p), v -> v.weigh(1, p.length()), -2);
        }
        for (String p : new String[] {"c", "aa", "a/b", "b/", "b/cc", "b/c/c", "abcdefghijkl"}) {
            refused("31: there are none, " + p, FORKED.with(p), v -> v.weigh(1, p.length()), -2);
        }
        refused("31: no FILES", NEW.then(EditionVault::commit).with("a"), v -> v.weigh(0, 1), -2);
        taken("31: no BYTES", NEW.written("a", "").then(EditionVault::commit).with("a"), v -> v.weigh(0, 1), 0);
        taken("31: twelve of 40", NEW.then(v -> {
            for (int i = 0; i < 12; i++) {
                write(v, "z/" + letter(i), LONG);
            }
            return v.commit();
        }).with("z"), v -> v.weigh(0, 1), 480);
        taken("31: a PATH of 12", NEW.written("abcdefghijkl", LONG).then(EditionVault::commit).with("abcdefghijkl"), v -> v.weigh(0, 12), 40);
        taken("31: the tape stays", FORKED.with("a").then(v -> v.weigh(0, 1)), v -> v.count(11), 20);
    }

    private static void promise32() {
        for (int what : new int[] {LEAST, -1, 3, MOST}) {
            refused("32: what " + what, FORKED, v -> v.file(0, 0, what), NONE);
            refused("32: of THE STAGE, what " + what, FORKED, v -> v.file(-1, 0, what), NONE);
        }
        for (int i : new int[] {LEAST, -1, 2, 12, MOST}) {
            refused("32: i " + i, FORKED, v -> v.file(0, i, 0), NONE);
            refused("32: of THE STAGE, i " + i, FORKED, v -> v.file(-1, i, 0), NONE);
        }
        for (int edition : new int[] {LEAST, -3, -2, 3, MOST}) {
            refused("32: no such EDITION, " + edition, FORKED, v -> v.file(edition, 0, 0), NONE);
        }
        refused("32: no FILES", NEW.then(EditionVault::commit), v -> v.file(0, 0, 0), NONE);
        refused("32: THE STAGE has none", NEW, v -> v.file(-1, 0, 0), NONE);
        taken("32: the twelfth", staged(12), v -> v.file(-1, 11, 1), 1);
        taken("32: the twelfth of an EDITION", hundredAndTwenty(), v -> v.file(0, 11, 1), 40);
        taken("32: a PATH of 12", longest(), v -> v.file(0, 11, 0), 12);
        taken("32: a PATH of 12, THE STAGE", longest(), v -> v.file(-1, 11, 0), 12);
        taken("32: 40 BYTES", hundredAndTwenty(), v -> v.file(-1, 0, 1), 40);
        taken("32: no BYTES", NEW.written("a", ""), v -> v.file(-1, 0, 1), 0);
        refused("32: a CONTENT, none", NEW.written("a", ""), v -> v.file(-1, 0, 2), -2);
        refused("32: a CONTENT, SPOILT", FORKED.then(v -> v.spoil(18, 0)), v -> v.file(-1, 0, 2), -2);
        refused("32: a CONTENT, SPOILT, READ as THE STAGE has it", FORKED.then(v -> v.spoil(18, 0)).written("a", "\0NE1234"),
            v -> v.file(-1, 0, 2), -2);
        taken("32: an EDITION's is SPOILT", FORKED.then(v -> v.spoil(18, 0)), v -> v.file(2, 0, 2), 4);
        // kept anew while the first was spoilt: both are whole in the end
        Start twice = FORKED.then(v -> v.spoil(18, 0)).then(EditionVault::commit).then(v -> v.spoil(18, 'O'));
        taken("32: two CONTENTS", twice, v -> v.count(5), 6);
        taken("32: the least that is WHOLE", twice, v -> v.file(-1, 0, 2), 4);
        taken("32: the one that is WHOLE", twice.then(v -> v.spoil(18, 0)), v -> v.file(-1, 0, 2), 5);
        taken("32: the EDITION's own", twice, v -> v.file(3, 0, 2), 5);
    }

    private static void promise33() {
        for (boolean isBytes : new boolean[] {false, true}) {
            String told = "33: " + isBytes;
            for (int edition : new int[] {LEAST, -2, 3, MOST}) {
                refused(told + ", no such EDITION, " + edition, FORKED, v -> v.at(edition, 0, isBytes, 0), NONE);
            }
            for (int i : new int[] {LEAST, -1, 2, 12, MOST}) {
                refused(told + ", i " + i, FORKED, v -> v.at(0, i, isBytes, 0), NONE);
                refused(told + ", of THE STAGE, i " + i, FORKED, v -> v.at(-1, i, isBytes, 0), NONE);
                refused(told + ", NONE ahead of -2, i " + i, FORKED, v -> v.at(0, i, isBytes, 50), NONE);
            }
            for (int k : new int[] {LEAST, -1}) {
                refused(told + ", k " + k, FORKED, v -> v.at(0, 0, isBytes, k), NONE);
                refused(told + ", of THE STAGE, k " + k, FORKED, v -> v.at(-1, 0, isBytes, k), NONE);
                refused(told + ", NONE ahead of -3, k " + k, CHAINED.then(v -> v.spoil(40, 0)), v -> v.at(1, 1, isBytes, k), NONE);
            }
            for (int k : new int[] {7, 12, 13, 40, 41, 1000, MOST}) {
                refused(told + ", not so many, " + k, FORKED, v -> v.at(2, 0, isBytes, k), -2);
                refused(told + ", of THE STAGE, not so many, " + k, FORKED, v -> v.at(-1, 0, isBytes, k), -2);
            }
        }
        taken("33: the first of a PATH", FORKED, v -> v.at(0, 1, false, 0), 'b');
        taken("33: the last of a PATH", FORKED, v -> v.at(0, 1, false, 2), 'c');
        refused("33: behind a PATH", FORKED, v -> v.at(0, 1, false, 3), -2);
        refused("33: behind a PATH of THE STAGE", FORKED, v -> v.at(-1, 1, false, 3), -2);
        taken("33: the last of a PATH of 12", longest(), v -> v.at(0, 11, false, 11), 'l');
        refused("33: behind a PATH of 12", longest(), v -> v.at(0, 11, false, 12), -2);
        taken("33: the last of BYTES", FORKED, v -> v.at(2, 0, true, 6), '4');
        taken("33: the last of BYTES of THE STAGE", FORKED, v -> v.at(-1, 0, true, 6), '4');
        refused("33: behind BYTES of THE STAGE", FORKED, v -> v.at(-1, 0, true, 7), -2);
        taken("33: the last of 40", CHAINED, v -> v.at(0, 0, true, 39), 'D');
        refused("33: behind 40", CHAINED, v -> v.at(0, 0, true, 40), -2);
        refused("33: no BYTES", NEW.written("a", "").then(EditionVault::commit), v -> v.at(0, 0, true, 0), -2);
        refused("33: no BYTES of THE STAGE", NEW.written("a", ""), v -> v.at(-1, 0, true, 0), -2);
        Start unread = CHAINED.then(v -> v.spoil(40, 0));
        refused("33: it can't be READ", unread, v -> v.at(1, 1, true, 0), -3);
        refused("33: it can't be READ, the last", unread, v -> v.at(1, 1, true, 31), -3);
        refused("33: -2 ahead of -3", unread, v -> v.at(1, 1, true, 32), -2);
        refused("33: its BASE can't be READ", unread, v -> v.at(3, 3, true, 33), -3);
        refused("33: its BASE can't be READ, -2 ahead of -3", unread, v -> v.at(3, 3, true, 34), -2);
        taken("33: THE STAGE needs no CONTENT", unread, v -> v.at(-1, 3, true, 33), '-');
        taken("33: its PATH needs no CONTENT", unread, v -> v.at(3, 3, false, 0), 'd');
        taken("33: SPOILT, but READ", CHAINED.then(v -> v.spoil(0, 255)), v -> v.at(3, 3, true, 1), 255);
    }

    private static void promise34() {
        for (int content : new int[] {LEAST, -1, 4, 39, 40, MOST}) {
            for (int what = 0; what < 10; what++) {
                int w = what;
                taken("34: no such CONTENT, " + content + ", what " + what, CHAINED, v -> v.content(content, w), NONE);
            }
        }
        for (int what : new int[] {LEAST, -1, 10, MOST}) {
            refused("34: what " + what, CHAINED, v -> v.content(0, what), NONE);
        }
        int[][] want = {{40, mark(LONG), 0, 40, -2, 0, 4, 1, 1, 1}, {34, mark("#" + LONG.substring(0, 30) + "#+-"), 50, 4, 2, 3, 1, 0, 1, 1}};
        for (int what = 0; what < 10; what++) {
            int w = what;
            taken("34: the first, what " + what, CHAINED, v -> v.content(0, w), want[0][w]);
            taken("34: the last, what " + what, CHAINED, v -> v.content(3, w), want[1][w]);
        }
        taken("34: number 39", fortyByOne(), v -> v.content(39, 3), 4);
        taken("34: BASE 0", fortyByOne(), v -> v.content(39, 4), 0);
        taken("34: the BASE of 39", fortyByOne(), v -> v.content(0, 7), 39);
        taken("34: the BASE of 0", zeroByOne(), v -> v.content(1, 7), 1);
        taken("34: in 120 PATHS", hundredAndTwenty(), v -> v.content(0, 6), 120);
        taken("34: in none", CHAINED.then(v -> remove(v, "a")).then(EditionVault::commit).then(v -> v.thin(1)), v -> v.content(0, 6), 0);
        taken("34: no BYTES", NEW.written("a", "").then(EditionVault::commit), v -> v.content(0, 0), 0);
        taken("34: no KEPT bytes", NEW.written("a", "").then(EditionVault::commit), v -> v.content(0, 3), 0);
        refused("34: it went", FORKED.then(v -> v.drop(1)), v -> v.content(2, 0), NONE);
    }

    private static void promise35And36() {
        for (int place : new int[] {LEAST, -1, 400, MOST}) {
            refused("35: place " + place, FORKED, v -> v.row(place), NONE);
            refused("36: place " + place, FORKED, v -> v.owner(place), NONE);
        }
        taken("35: the first", FORKED, v -> v.row(0), 'o');
        taken("35: the last", nineAnd(40), v -> v.row(399), stepped(21, 40).charAt(39));
        taken("35: a free one", FORKED, v -> v.row(399), 0);
        taken("35: 255", FORKED.then(v -> v.spoil(399, 255)), v -> v.row(399), 255);
        taken("35: what went is there still", editions(1).then(v -> v.drop(0)), v -> v.row(0), 'a');
        taken("36: the first", FORKED, v -> v.owner(0), 0);
        taken("36: the last of the first", FORKED, v -> v.owner(2), 0);
        taken("36: the first of the next", FORKED, v -> v.owner(3), 1);
        taken("36: the last byte", nineAnd(40), v -> v.owner(399), 9);
        taken("36: the last CONTENT", FORKED, v -> v.owner(24), 4);
        refused("36: behind it", FORKED, v -> v.owner(25), -2);
        refused("36: the last, free", nineAnd(39), v -> v.owner(399), -2);
        refused("36: it went", editions(1).then(v -> v.drop(0)), v -> v.owner(0), -2);
        taken("36: CONTENT 39", fortyLess(0), v -> v.owner(79), 39);
    }

    private static void promise37() {
        for (int edition : new int[] {LEAST, -2, -1, 3, MOST}) {
            refused("37: no such a, " + edition, FORKED, v -> v.change(edition, 0, -1, 0), NONE);
            refused("37: no such b, " + edition, FORKED, v -> v.change(0, edition, -1, 0), NONE);
        }
        for (int what : new int[] {LEAST, -1, 4, MOST}) {
            refused("37: what " + what, FORKED, v -> v.change(0, 1, 0, what), NONE);
            refused("37: how many, what " + what, FORKED, v -> v.change(0, 1, -1, what), NONE);
        }
        for (int what = 1; what < 4; what++) {
            int w = what;
            refused("37: what 0 alone, " + what, FORKED, v -> v.change(0, 1, -1, w), NONE);
        }
        for (int k : new int[] {LEAST, -2, 2, 24, MOST}) {
            for (int what = 0; what < 4; what++) {
                int w = what;
                taken("37: k " + k + ", what " + what, FORKED, v -> v.change(0, 1, k, w), NONE);
            }
        }
        taken("37: how many", FORKED, v -> v.change(0, 1, -1, 0), 2);
        EditionVault u = forked();
        int[][][] of = {{{2, 1, 1, -2}, {0, -2, 2, -2}}, {{2, 1, 1, -2}, {1, 2, -2, -2}}, {{2, 1, 1, -2}, {0, -2, 2, -2}}};
        for (int i = 0; i < of.length; i++) {
            due("37: how many, time " + i, u.change(i % 2, 1 - i % 2, -1, 0), 2);
            for (int k = 0; k < 2; k++) {
                for (int what = 0; what < 4; what++) {
                    due("37: time " + i + ", k " + k + ", what " + what, u.change(i % 2, 1 - i % 2, k, what), of[i][k][what]);
                }
            }
        }
        taken("37: another CONTENT, 0", editions(2).written("x", "a").then(EditionVault::commit), v -> v.change(1, 2, 0, 0), 2);
        taken("37: another CONTENT, it was 0", editions(2), v -> v.change(0, 1, 0, 0), 2);
        taken("37: none", FORKED, v -> v.change(2, 2, -1, 0), 0);
        refused("37: none, the first", FORKED, v -> v.change(2, 2, 0, 0), NONE);
        taken("37: nothing in both", NEW.then(EditionVault::commit), v -> v.change(0, 0, -1, 0), 0);
        Start all = staged(12).then(EditionVault::commit).then(v -> {
            for (int i = 0; i < 12; i++) {
                move(v, letter(i), letter(12 + i));
            }
            return v.commit();
        });
        taken("37: 24", all, v -> v.change(0, 1, -1, 0), 24);
        int[][] want = {{1, 0, -2, -2}, {1, 11, -2, -2}, {0, -2, 0, 0}, {0, -2, 11, 11}};
        int[] some = {0, 11, 12, 23};
        for (int i = 0; i < some.length; i++) {
            for (int what = 0; what < 4; what++) {
                int k = some[i];
                int w = what;
                taken("37: of 24 number " + k + ", what " + w, all, v -> v.change(0, 1, k, w), want[i][w]);
            }
        }
        refused("37: number 24", all, v -> v.change(0, 1, 24, 0), NONE);
        taken("37: with nothing", NEW.then(EditionVault::commit).then(v -> write(v, "a", "b")).then(EditionVault::commit),
            v -> v.change(0, 1, 0, 0), 0);
        taken("37: with nothing, back", NEW.then(EditionVault::commit).then(v -> write(v, "a", "b")).then(EditionVault::commit),
            v -> v.change(1, 0, 0, 0), 1);
        // c and d come with the content of a and b, of which a stays
        Start moved = NEW.written("a", "!").written("b", "!").then(EditionVault::commit).then(v -> move(v, "b", "c"))
            .written("d", "!").then(EditionVault::commit);
        taken("37: MOVED from one that is in a's alone", moved, v -> v.change(0, 1, 1, 3), 1);
        taken("37: MOVED, that one, too", moved, v -> v.change(0, 1, 2, 3), 1);
        taken("37: MOVED, but it is in both", moved.then(v -> v.rebuild(0)).written("d", "!").then(EditionVault::commit),
            v -> v.change(0, 2, 0, 3), -2);
        taken("37: MOVED, the first", NEW.written("a", "!").written("b", "!").then(EditionVault::commit).then(v -> move(v, "a", "d"))
            .then(v -> move(v, "b", "c")).then(EditionVault::commit), v -> v.change(0, 1, 3, 3), 0);
        taken("37: not MOVED, another CONTENT", moved.written("a", "?").then(EditionVault::commit), v -> v.change(1, 2, 0, 3), -2);
    }

    private static void promise38() {
        for (int edition : new int[] {LEAST, -2, -1, 3, MOST}) {
            refused("38: no such a, " + edition, FORKED, v -> v.common(edition, 0), NONE);
            refused("38: no such b, " + edition, FORKED, v -> v.common(0, edition), NONE);
        }
        refused("38: none", FORKED.then(v -> v.drop(0)), v -> v.common(1, 2), -2);
        refused("38: none, of two", unrelated(), v -> v.common(2, 1), -2);
        taken("38: 0", FORKED, v -> v.common(1, 2), 0);
        taken("38: itself", FORKED, v -> v.common(0, 0), 0);
        taken("38: itself, OF none", FORKED.then(v -> v.drop(0)), v -> v.common(2, 2), 2);
        taken("38: the first of ten", editions(10), v -> v.common(9, 0), 0);
        taken("38: the greatest", editions(10), v -> v.common(9, 8), 8);
        Start both = FORKED.then(v -> v.join(1, 2)).then(EditionVault::commit).then(v -> v.drop(0));
        taken("38: by ALSO OF", both, v -> v.common(3, 2), 2);
        taken("38: by OF", both, v -> v.common(3, 1), 1);
    }

    private static void promise39() {
        Start all = hundredAndTwenty().then(v -> v.spoil(39, 0));
        for (int k : new int[] {LEAST, -1, 120, MOST}) {
            for (int what = 0; what < 3; what++) {
                int w = what;
                taken("39: k " + k + ", what " + what, all, v -> v.touched(k, w), NONE);
            }
        }
        for (int what : new int[] {LEAST, -1, 3, MOST}) {
            refused("39: what " + what, all, v -> v.touched(0, what), NONE);
        }
        refused("39: none", hundredAndTwenty(), v -> v.touched(0, 0), NONE);
        refused("39: no EDITIONS", NEW, v -> v.touched(0, 0), NONE);
        int[][] want = {{0, 0, 0, 0}, {11, 0, 11, 0}, {12, 1, 0, 0}, {119, 9, 11, 0}};
        for (int[] w : want) {
            for (int what = 0; what < 3; what++) {
                int told = what;
                taken("39: " + w[0] + ", what " + what, all, v -> v.touched(w[0], told), w[told + 1]);
            }
        }
        Start last = FORKED.then(v -> v.spoil(18, 0));
        taken("39: the only one", last, v -> v.touched(0, 0), 2);
        taken("39: its CONTENT", last, v -> v.touched(0, 2), 4);
        refused("39: the second", last, v -> v.touched(1, 0), NONE);
    }

    private static void promise40() {
        for (int edition : new int[] {LEAST, -2, -1, 3, MOST}) {
            refused("40: no such one, " + edition, FORKED, v -> v.told(edition, -1), NONE);
            refused("40: NONE ahead of -4, " + edition, FORKED, v -> v.told(edition, 1000), NONE);
        }
        for (int i : new int[] {LEAST, -2}) {
            refused("40: i " + i, FORKED, v -> v.told(0, i), NONE);
        }
        Start nothing = NEW.then(EditionVault::commit);
        taken("40: nothing", nothing, v -> v.told(0, -1), 0);
        refused("40: nothing, byte 0", nothing, v -> v.told(0, 0), -4);
        taken("40: the longest", longest(), v -> v.told(0, -1), 228);
        String text = longestText();
        EditionVault v = longest().make();
        for (int i = 0; i < text.length(); i++) {
            due("40: byte " + i + " of the longest", v.told(0, i), text.charAt(i));
        }
        for (int i : new int[] {228, 229, 240, 1000, MOST}) {
            refused("40: not so many, " + i, longest(), w -> w.told(0, i), -4);
        }
        for (int wanted : new int[] {0, 9, 10, 99, 100, 999, 1000, 9999, 10000, 65520}) {
            String told = "a=" + wanted + ";";
            Start one = NEW.written("a", marked(wanted)).then(EditionVault::commit);
            taken("40: length with MARK " + wanted, one, w -> w.told(0, -1), told.length());
            for (int i = 0; i < told.length(); i++) {
                int k = i;
                taken("40: byte " + i + " with MARK " + wanted, one, w -> w.told(0, k), told.charAt(i));
            }
            refused("40: behind MARK " + wanted, one, w -> w.told(0, told.length()), -4);
        }
        taken("40: its MARK as it was told", FORKED.then(w -> w.spoil(0, 0)), w -> w.of(0, 6),
            mark("a=" + mark("one") + ";b/c=" + mark("two!") + ";"));
    }

    private static void promise41() {
        wordsRefused("41: p", FORKED, p -> v -> v.since(p, 0));
        for (int k : new int[] {LEAST, -2, -1}) {
            refused("41: k " + k, FORKED.with("z"), v -> v.since(1, k), NONE);
            refused("41: NONE ahead of -2, k " + k, FORKED.with("/"), v -> v.since(1, k), NONE);
        }
        for (String p : NO_PATHS) {
            refused("41: no PATH, " + p, FORKED.with(p), v -> v.since(p.length(), 0), -2);
        }
        for (String p : new String[] {"b", "aa", "a/b", "b/cc", "abcdefghijkl"}) {
            refused("41: none has it, " + p, FORKED.with(p), v -> v.since(p.length(), 0), -2);
        }
        refused("41: no EDITIONS", NEW.with("a"), v -> v.since(1, 0), -2);
        for (int k = 0; k < 10; k++) {
            int i = k;
            taken("41: of ten " + k, editions(10).with("x"), v -> v.since(1, i), k);
        }
        refused("41: of ten 10", editions(10).with("x"), v -> v.since(1, 10), -2);
        refused("41: of ten, many", editions(10).with("x"), v -> v.since(1, MOST), -2);
        taken("41: the tape stays", editions(10).with("x").then(v -> v.since(1, 0)), v -> v.count(11), 20);
        taken("41: a PATH of 12", longest().with("abcdefghijkl"), v -> v.since(12, 0), 0);
        Start gap = editions(1).then(v -> remove(v, "x")).then(EditionVault::commit).written("x", "a").then(EditionVault::commit)
            .written("y", "").then(EditionVault::commit);
        taken("41: the first", gap.with("x"), v -> v.since(1, 0), 0);
        taken("41: behind a gap", gap.with("x"), v -> v.since(1, 1), 2);
        refused("41: not where it stays", gap.with("x"), v -> v.since(1, 2), -2);
        taken("41: that one is none", gap.then(v -> v.drop(0)).then(v -> v.drop(1)).with("x"), v -> v.since(1, 0), 2);
        refused("41: the gap went", gap.then(v -> v.drop(1)).with("x"), v -> v.since(1, 1), -2);
    }

    public static void main(String[] args) {
        gatherQuestions();
        paths();
        longNeighbours();
        marks();
        reading();
        pieces();
        places();
        lastNumber();
        promise1();
        promise2();
        promise3();
        promise4();
        promise5();
        promise6();
        promise7();
        promise7Full();
        promise8();
        promise9();
        promise9Settled();
        promise9Many();
        promise10();
        promise11();
        packedFromTheEnd();
        promise12();
        promise13();
        promise14();
        promise15();
        promise16();
        promise17();
        promise18();
        promise19();
        promise20();
        promise21();
        promise22();
        promise23();
        promise24();
        promise25();
        promise26();
        promise27();
        promise28();
        promise29();
        promise30();
        promise31();
        promise32();
        promise33();
        promise34();
        promise35And36();
        promise37();
        promise38();
        promise39();
        promise40();
        promise41();
        end();
    }
}
