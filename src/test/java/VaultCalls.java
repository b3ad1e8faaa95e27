/** How the tests by hand speak to a vault, some vaults that they share, and what is told in the end. */
abstract class VaultCalls {
    static final String LONG = "abcdefghijklmnopqrstuvwxyz0123456789ABCD";
    private static int wrong;
    private static int asked;

    static void due(String what, int got, int want) {
        asked++;
        if (got != want) {
            wrong++;
            System.out.println(what + " answered " + got + ", due is " + want);
        }
    }

    // ---- how the tests speak to a vault ----

    static void clear(EditionVault v) {
        v.mend(-1, 0);
    }

    /** These bytes are the first ones of the tape; as many 0 as it takes come behind them. */
    static void tape(EditionVault v, String s) {
        clear(v);
        for (int i = 0; i < s.length(); i += 20) {
            v.feed(four(s, i), four(s, i + 4), four(s, i + 8), four(s, i + 12), four(s, i + 16));
        }
    }

    static int four(String s, int i) {
        int x = 0;
        for (int k = i; k < i + 4; k++) {
            x = x << 8 | (k < s.length() ? s.charAt(k) & 255 : 0);
        }
        return x;
    }

    static int write(EditionVault v, String path, String bytes) {
        tape(v, path + bytes);
        return v.write(path.length(), bytes.length());
    }

    static int remove(EditionVault v, String path) {
        tape(v, path);
        return v.remove(path.length());
    }

    static int move(EditionVault v, String p, String q) {
        tape(v, p + q);
        return v.move(p.length(), q.length());
    }

    static int copy(EditionVault v, String p, String q) {
        tape(v, p + q);
        return v.copy(p.length(), q.length());
    }

    static int fetch(EditionVault v, int edition, String p) {
        tape(v, p);
        return v.fetch(edition, p.length());
    }

    static int mend(EditionVault v, int content, String bytes) {
        tape(v, bytes);
        return v.mend(content, bytes.length());
    }

    static int name(EditionVault v, int edition, String s) {
        tape(v, s);
        return v.name(edition, s.length());
    }

    static int named(EditionVault v, String s) {
        tape(v, s);
        return v.named(s.length());
    }

    static int like(EditionVault v, int edition, String s, int k) {
        tape(v, s);
        return v.like(edition, s.length(), k);
    }

    static int weigh(EditionVault v, int edition, String p) {
        tape(v, p);
        return v.weigh(edition, p.length());
    }

    static int since(EditionVault v, String p, int k) {
        tape(v, p);
        return v.since(p.length(), k);
    }

    /** "path=bytes path=bytes .." of an edition, or of the stage (-1). */
    static String files(EditionVault v, int edition) {
        StringBuilder s = new StringBuilder();
        for (int i = 0; v.file(edition, i, 0) >= 0; i++) {
            s.append(i > 0 ? " " : "");
            for (int k = 0; k < v.file(edition, i, 0); k++) {
                s.append((char) v.at(edition, i, false, k));
            }
            s.append('=');
            for (int k = 0; k < v.file(edition, i, 1); k++) {
                s.append((char) v.at(edition, i, true, k));
            }
        }
        return s.toString();
    }

    static void dueFiles(String what, EditionVault v, int edition, String want) {
        String got = files(v, edition);
        asked++;
        if (!got.equals(want)) {
            wrong++;
            System.out.println(what + ": files are <" + got + ">, due are <" + want + ">");
        }
    }

    static void dueRow(String what, EditionVault v, int from, int... want) {
        for (int i = 0; i < want.length; i++) {
            due(what + ": row(" + (from + i) + ")", v.row(from + i), want[i]);
        }
    }

    static int mark(String s) {
        int m = 7;
        for (int i = 0; i < s.length(); i++) {
            m = (31 * m + s.charAt(i) + 1) % 65521;
        }
        return m;
    }

    /** Editions 0: a, b/c. 1 of it: b/c another, d. 2 of 0 too: a another. Contents 0 1, 2 3, 4. */
    static EditionVault forked() {
        EditionVault v = new EditionVault();
        write(v, "a", "one");
        write(v, "b/c", "two!");
        v.commit();
        write(v, "b/c", "TWO??");
        write(v, "d", "four44");
        v.commit();
        v.rebuild(0);
        write(v, "a", "ONE1234");
        v.commit();
        return v;
    }

    /** Contents: 0 plain (40 bytes), 1 by 0 (6), 2 by 1 (4), 3 by 2 (4); each edition has one path more. */
    static EditionVault chained() {
        EditionVault v = new EditionVault();
        write(v, "a", LONG);
        v.commit();
        write(v, "b", "#" + LONG.substring(0, 30) + "#");
        v.commit();
        write(v, "c", "#" + LONG.substring(0, 30) + "#" + "+");
        v.commit();
        write(v, "d", "#" + LONG.substring(0, 30) + "#" + "+" + "-");
        v.commit();
        return v;
    }

    /** Bytes of two steps share no run of three. */
    static String stepped(int step, int n) {
        StringBuilder s = new StringBuilder();
        for (int k = 0; k < n; k++) {
            s.append((char) ((k * step + step) & 255));
        }
        return s.toString();
    }

    /** Some bytes with this mark. */
    static String marked(int wanted) {
        StringBuilder s = new StringBuilder("....");
        for (int i = 0; mark(s.toString()) != wanted; i++) {
            for (int k = 0; k < 4; k++) {
                s.setCharAt(k, (char) ((i >> (6 * k)) & 63));
            }
        }
        return s.toString();
    }

    /**
     * Three contents of 40 with numbers 9 to 11, of each a third (13 bytes) in three others with
     * numbers 0 to 8: by them these take 3 more than their tails; but anew these come first, plain,
     * and the three by them take 30 each: 207 more than all tails.
     */
    static EditionVault thirds(int tails) {
        EditionVault v = new EditionVault();
        for (int i = 0; i < 9; i++) {
            write(v, "" + (char) ('a' + i), "" + (char) i);
        }
        v.commit();
        for (int i = 0; i < 9; i++) {
            remove(v, "" + (char) ('a' + i));
        }
        for (int i = 0; i < 3; i++) {
            write(v, "x" + (char) ('a' + i), stepped(101 + 2 * i, 40));
        }
        v.commit();
        v.drop(0);
        for (int i = 0; i < 9; i++) {
            int from = i % 3 * 13;
            String third = stepped(101 + i / 3 * 2, 40).substring(from, from + 13);
            write(v, "" + (char) ('a' + i), third + stepped(3 + 2 * i, (tails + i) / 9));
        }
        v.commit();
        return v;
    }

    /** Tells how it went, and ends with exit code 1 if an answer was not as due. */
    static void end() {
        System.out.println(asked + " answers asked for, " + wrong + " wrong");
        if (wrong != 0) {
            System.exit(1);
        }
    }
}
