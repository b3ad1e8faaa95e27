/**
 * The document's promises, one after the other: ordinary calls, the edges that the document names,
 * and calls that are refused. What is due was worked out by hand from the document.
 */
public final class PromisesTest extends VaultCalls {
    private PromisesTest() {
    }

    // ---- promises ----

    private static void promise1() {
        EditionVault v = new EditionVault();
        int[] counts = {0, -2, -2, 0, 0, 0, 0, 400, 0, 0, 0, 0, 0, 0, 0};
        for (int i = 0; i < counts.length; i++) {
            due("1: new, count(" + i + ")", v.count(i), counts[i]);
        }
        for (int place = 0; place < 400; place++) {
            due("1: new, row(" + place + ")", v.row(place), 0);
            due("1: new, owner(" + place + ")", v.owner(place), -2);
        }
        due("1: NONE", EditionVault.NONE, -1);
    }

    private static void promise2() {
        EditionVault v = new EditionVault();
        due("2: first", v.feed(0x61FF8001, 0x02030405, -1, 0, Integer.MIN_VALUE), 20);
        due("2: its bytes", v.write(1, 19), 1);
        int[] want = {0xFF, 0x80, 1, 2, 3, 4, 5, 255, 255, 255, 255, 0, 0, 0, 0, 0x80, 0, 0, 0};
        for (int k = 0; k < want.length; k++) {
            due("2: byte " + k, v.at(-1, 0, true, k), want[k]);
        }
        for (int i = 1; i <= 8; i++) {
            due("2: feed " + i, v.feed(0x61616161, 1, 2, 3, 4), 20 * i);
        }
        due("2: too many", v.feed(1, 2, 3, 4, 5), -1);
        due("2: too many, tape", v.count(11), 160);
        due("2: behind the tape", v.write(4, 40), 2);
        due("2: behind the tape, 16 on", v.at(-1, 1, true, 16), 0x61);
        due("2: empty now", v.count(11), 0);
    }

    private static void promise3() {
        EditionVault v = new EditionVault();
        due("3: first", write(v, "b/c", "xyz"), 1);
        due("3: ahead of it", write(v, "ab", ""), 2);
        due("3: in place", write(v, "b/c", "q"), 2);
        due("3: 12 bytes", write(v, "abcdefghijkl", LONG), 3);
        dueFiles("3", v, -1, "ab= abcdefghijkl=" + LONG + " b/c=q");
        due("3: tape is empty", v.count(11), 0);
        String[] wrongPaths = {"/", "a/", "/a", "a//b", "A", "a b", "a1", "a`", "a{", "a.", "a0"};
        for (String p : wrongPaths) {
            due("3: no path " + p, write(v, p, "x"), -2);
            due("3: tape is empty after -2", v.count(11), 0);
        }
        due("3: above", write(v, "b", "x"), -3);
        due("3: below", write(v, "ab/c", "x"), -3);
        due("3: tape is empty after -3", v.count(11), 0);
        due("3: no part", write(v, "b/cd", "x"), 4);
        tape(v, "abcdefghijklm" + LONG);
        due("3: p 13", v.write(13, 1), -1);
        due("3: p 0", v.write(0, 1), -1);
        due("3: p -1", v.write(-1, 1), -1);
        due("3: n 41", v.write(1, 41), -1);
        due("3: n -1", v.write(1, -1), -1);
        due("3: n huge", v.write(1, Integer.MAX_VALUE), -1);
        due("3: tape stays", v.count(11), 60);
        tape(v, "zz");
        due("3: not so many", v.write(1, 20), -1);
        due("3: just so many", v.write(1, 19), 5);
        for (int i = 0; i < 7; i++) {
            due("3: fill", write(v, "k" + (char) ('a' + i), "" + i), 6 + i);
        }
        due("3: twelve", v.count(0), 12);
        due("3: a thirteenth", write(v, "y", "x"), -4);
        due("3: -3 ahead of -4", write(v, "b", "x"), -3);
        due("3: -2 ahead of -3", write(v, "B", "x"), -2);
        due("3: in place among twelve", write(v, "ka", "new"), 12);
        due("3: in place among twelve, bytes", v.file(-1, 4, 1), 3);
        due("3: nothing else", v.count(0), 12);
    }

    private static void promise4() {
        EditionVault v = new EditionVault();
        for (String p : new String[] {"a/b", "a/c/d", "ab", "b", "a/bc"}) {
            write(v, p, p);
        }
        tape(v, "a");
        due("4: p 0", v.remove(0), -1);
        due("4: p 13", v.remove(13), -1);
        due("4: tape stays", v.count(11), 20);
        due("4: all below", v.remove(1), 3);
        due("4: tape is empty", v.count(11), 0);
        dueFiles("4", v, -1, "ab=ab b=b");
        due("4: not so many", v.remove(1), -1);
        due("4: none", remove(v, "a"), -3);
        due("4: tape is empty after -3", v.count(11), 0);
        due("4: no path", remove(v, "b/"), -2);
        due("4: tape is empty after -2", v.count(11), 0);
        due("4: one", remove(v, "ab"), 1);
        dueFiles("4: at the end", v, -1, "b=b");
    }

    private static void promise5() {
        EditionVault v = new EditionVault();
        for (String p : new String[] {"a/b", "a/c/d", "ab", "b"}) {
            write(v, p, p);
        }
        tape(v, "ac");
        due("5: p 0", v.move(0, 1), -1);
        due("5: p 13", v.move(13, 1), -1);
        due("5: q 0", v.move(1, 0), -1);
        due("5: q 13", v.move(1, 13), -1);
        due("5: not so many", v.move(12, 9), -1);
        due("5: tape stays", v.count(11), 20);
        due("5: two", v.move(1, 1), 2);
        due("5: tape is empty", v.count(11), 0);
        dueFiles("5", v, -1, "ab=ab b=b c/b=a/b c/c/d=a/c/d");
        due("5: to the front", move(v, "c/c", "aa"), 1);
        dueFiles("5: front", v, -1, "aa/d=a/c/d ab=ab b=b c/b=a/b");
        due("5: none", move(v, "x", "y"), -3);
        due("5: tape is empty after -3", v.count(11), 0);
        due("5: no path, the one", move(v, "x/", "y"), -2);
        due("5: no path, the other", move(v, "aa", "Y"), -2);
        due("5: there", move(v, "ab", "b"), -4);
        due("5: tape is empty after -4", v.count(11), 0);
        due("5: above", move(v, "ab", "aa"), -4);
        due("5: below", move(v, "c", "b"), -4);
        due("5: too long", move(v, "aa", "abcdefghijk"), -4);
        due("5: just not too long", move(v, "aa", "abcdefghij"), 1);
        due("5: alike", move(v, "c", "c"), 1);
        due("5: below itself", move(v, "c", "c/b"), 1);
        dueFiles("5: below itself", v, -1, "ab=ab abcdefghij/d=a/c/d b=b c/b/b=a/b");
        due("5: up again", move(v, "c/b/b", "c"), 1);
        dueFiles("5: up again", v, -1, "ab=ab abcdefghij/d=a/c/d b=b c=a/b");
        due("5: how many stay", v.count(0), 4);
    }

    private static void promise6() {
        EditionVault v = new EditionVault();
        for (String p : new String[] {"a/b", "a/c", "d"}) {
            write(v, p, p);
        }
        tape(v, "ae");
        due("6: p 0", v.copy(0, 1), -1);
        due("6: q 13", v.copy(1, 13), -1);
        due("6: not so many", v.copy(12, 9), -1);
        due("6: two", v.copy(1, 1), 2);
        due("6: tape is empty", v.count(11), 0);
        dueFiles("6", v, -1, "a/b=a/b a/c=a/c d=d e/b=a/b e/c=a/c");
        write(v, "e/b", "own");
        due("6: bytes of its own", v.at(-1, 0, true, 0), 'a');
        due("6: no path", copy(v, "a", "/"), -2);
        due("6: none", copy(v, "f", "g"), -3);
        due("6: alike", copy(v, "a", "a"), -4);
        due("6: there", copy(v, "a/b", "d"), -4);
        due("6: below", copy(v, "a/b", "d/x"), -4);
        due("6: above", copy(v, "d", "a"), -4);
        due("6: below itself", copy(v, "d", "d/d"), -4);
        due("6: too long", copy(v, "a", "abcdefghijk"), -4);
        due("6: ten", copy(v, "e", "f"), 2);
        due("6: ten", copy(v, "e", "g"), 2);
        due("6: ten", copy(v, "d", "h"), 1);
        due("6: thirteen", copy(v, "a", "a/z"), 2);
        due("6: fourteen", copy(v, "a", "i"), -5);
        due("6: -4 ahead of -5", copy(v, "a", "d"), -4);
        due("6: tape is empty after -5", v.count(11), 0);
        due("6: twelve", v.count(0), 12);
    }

    private static void promise7() {
        EditionVault v = new EditionVault();
        due("7: empty", v.commit(), 0);
        due("7: the same", v.commit(), -2);
        write(v, "a", "abcdef");
        write(v, "b", "abcdef");
        due("7: one content for two", v.commit(), 1);
        due("7: contents", v.count(5), 1);
        due("7: of", v.of(1, 0), 0);
        due("7: stage is of", v.count(1), 1);
        due("7: the same again", v.commit(), -2);
        due("7: joined with itself", v.join(1, 1), 0);
        due("7: the same, but also of", v.commit(), 2);
        due("7: also of", v.of(2, 1), 1);
        due("7: stage is not also of", v.count(2), -2);
        v.spoil(0, 'z');
        due("7: the same, but spoilt", v.commit(), 3);
        due("7: kept anew", v.file(3, 0, 2), 1);
        due("7: by nothing that is spoilt", v.content(1, 4), -2);
        due("7: place behind", v.content(1, 2), 6);
        due("7: no third", v.count(5), 2);
        write(v, "c", "0");
        for (int i = 4; i < 10; i++) {
            write(v, "c", "" + i);
            due("7: fill", v.commit(), i);
        }
        due("7: ten, the same", v.commit(), -2);
        write(v, "d", "");
        due("7: eleventh", v.commit(), -3);
        due("7: nothing changed", v.count(5), 8);
        for (int i = 10; i < 100; i++) {
            v.drop(v.edition(0));
            write(v, "c", "" + i);
            due("7: on", v.commit(), i);
        }
        v.thin(0);
        due("7: next", v.count(4), 100);
        due("7: after 99", v.commit(), -3);
    }

    private static void promise7Keeping() {
        EditionVault v = new EditionVault();
        write(v, "a", "abcabcabc");
        write(v, "b", "abcabc");
        write(v, "c", "xxabcxabcabcabcabcy");
        write(v, "d", "");
        v.commit();
        due("7: empty is plain", v.content(3, 4), -2);
        due("7: empty, place", v.content(3, 2), 0);
        due("7: empty, kept", v.content(3, 3), 0);
        // longest run first, of like ones the first; a run that was broken off begins anew
        dueRow("7: b", v, 9, 128, 6);
        dueRow("7: c", v, 11, 2, 'x', 'x', 128, 3, 1, 'x', 128, 9, 128, 3, 1, 'y');
        due("7: c by the least", v.content(2, 4), 0);
        due("7: c kept", v.content(2, 3), 13);
        EditionVault w = new EditionVault();
        write(w, "a", "abcd");
        write(w, "b", "xabcx");
        write(w, "c", "abcyzw");
        w.commit();
        due("7: not shorter is plain", w.content(1, 4), -2);
        due("7: just shorter is not", w.content(2, 3), 6);
        due("7: plain, six are no less than six", w.content(2, 4), -2);
        EditionVault x = chained();
        due("7: depth 0", x.content(0, 5), 0);
        due("7: depth 1", x.content(1, 5), 1);
        due("7: depth 2", x.content(2, 5), 2);
        due("7: depth 3", x.content(3, 5), 3);
        write(x, "e", "#" + LONG.substring(0, 30) + "#" + "+" + "-" + "!");
        x.commit();
        due("7: not by one of depth 3", x.content(4, 4), 2);
        due("7: the greatest", x.count(13), 3);
    }

    private static void promise7Room() {
        EditionVault v = new EditionVault();
        for (int i = 0; i < 9; i++) {
            write(v, "" + (char) ('a' + i), stepped(3 + 2 * i, 40));
        }
        due("7: nine of 40", v.commit(), 0);
        due("7: all plain", v.count(12), 0);
        due("7: 40 free", v.count(7), 400 - v.count(6));
        int free = v.count(7);
        for (int i = 0; i < free; i++) {
            v.spoil(399 - i, 77);
        }
        write(v, "x", "1234567890qwertyuiop");
        write(v, "y", "poiuytrewq0987654321+");
        due("7: no room for the second", v.commit(), -4);
        due("7: of as before", v.count(1), 0);
        due("7: contents as before", v.count(5), 9);
        due("7: kept as before", v.count(6), 360);
        for (int i = 0; i < 40; i++) {
            due("7: free bytes as before", v.row(360 + i), 77);
        }
        due("7: next as before", v.count(4), 1);
        write(v, "y", "poiuytrewq0987654321");
        due("7: just room", v.commit(), 1);
        due("7: full", v.count(7), 0);
        due("19: just room anew", v.thrift(), 400);
        write(v, "z", "");
        due("7: nothing needs no room", v.commit(), 2);
        EditionVault u = new EditionVault();
        for (int i = 0; i < 11; i++) {
            write(u, "" + (char) ('a' + i), stepped(3 + 2 * i, 40));
        }
        due("7: no room at the first", u.commit(), -4);
        due("7: no contents", u.count(5), 0);
        due("7: all free", u.count(7), 400);
        due("7: row as before", u.row(0), 0);
        remove(v, "a");
        remove(v, "z");
        v.commit();
        v.thin(1);
        due("7: free again", v.owner(0), -2);
        v.spoil(0, 55);
        v.spoil(39, 56);
        write(v, "q", stepped(51, 40));
        write(v, "r", "r");
        due("7: room for the first alone", v.commit(), -4);
        due("7: still free", v.owner(0), -2);
        due("7: first free byte as before", v.row(0), 55);
        due("7: last free byte as before", v.row(39), 56);
        EditionVault w = new EditionVault();
        for (int i = 0; i < 40; i++) {
            write(w, "" + (char) ('a' + i % 10), "" + (char) (1 + i));
            if (i % 10 == 9) {
                w.commit();
            }
        }
        due("7: forty", w.count(5), 40);
        write(w, "a", "zz");
        due("7: forty-first", w.commit(), -4);
        write(w, "a", "" + (char) 5);
        due("7: none is needed", w.commit(), 4);
        due("7: least free place", w.content(39, 2), 39);
        w.drop(1);
        write(w, "a", "zz");
        due("7: a hole", w.commit(), 5);
        due("7: least free number", w.file(5, 0, 2), 10);
        due("7: least place", w.content(10, 2), 10);
    }

    private static void promise8() {
        EditionVault v = forked();
        v.join(1, 2);
        due("8: all", v.rebuild(1), 3);
        dueFiles("8", v, -1, "a=one b/c=TWO?? d=four44");
        due("8: of", v.count(1), 1);
        due("8: also of", v.count(2), -2);
        due("8: none such", v.rebuild(3), -2);
        due("8: none such", v.rebuild(-1), -2);
        v.spoil(v.content(1, 2), 0);
        due("8: spoilt", v.rebuild(0), -3);
        due("8: stays of", v.count(1), 1);
        dueFiles("8: stays", v, -1, "a=one b/c=TWO?? d=four44");
        due("8: another one", v.rebuild(1), 3);
    }

    private static void promise9() {
        EditionVault v = forked();
        due("9: no conflict", v.join(1, 2), 0);
        dueFiles("9", v, -1, "a=ONE1234 b/c=TWO?? d=four44");
        due("9: of", v.count(1), 1);
        due("9: also of", v.count(2), 2);
        due("9: commit", v.commit(), 3);
        due("9: its of", v.of(3, 0), 1);
        due("9: its also of", v.of(3, 1), 2);
        due("9: none such", v.join(0, 4), -2);
        due("9: none such", v.join(-1, 0), -2);
        v.rebuild(0);
        write(v, "a", "other");
        remove(v, "b");
        write(v, "b", "now a file");
        write(v, "d/e", "below");
        due("9: a fork", v.commit(), 4);
        // a: both changed it; b: below it is b/c, changed there, gone here; d: is above d/e
        due("9: conflicts", v.join(3, 4), 3);
        dueFiles("9: conflicts", v, -1, "a=ONE1234 b=now a file d=four44");
        due("9: told", v.count(14), 3);
        due("9: the other way", v.join(4, 3), 3);
        dueFiles("9: the other way", v, -1, "a=other b=now a file d=four44");
        due("9: the one is of the other", v.join(0, 3), 0);
        dueFiles("9: the one is of the other", v, -1, "a=ONE1234 b/c=TWO?? d=four44");
        due("9: told 0", v.count(14), 0);
        v.join(3, 4);
        due("9: refused", v.join(9, 9), -2);
        due("9: told stays", v.count(14), 3);
        v.spoil(v.content(3, 2), 0);
        due("9: spoilt comes", v.join(3, 4), -3);
        due("9: spoilt comes not", v.join(0, 2), 0);
        due("9: told anew", v.count(14), 0);
    }

    private static void promise9More() {
        EditionVault v = new EditionVault();
        write(v, "a", "1");
        write(v, "b", "2");
        write(v, "c", "3");
        write(v, "d", "4");
        v.commit();
        remove(v, "a");
        remove(v, "b");
        write(v, "c", "33");
        write(v, "e", "5");
        v.commit();
        v.rebuild(0);
        remove(v, "a");
        write(v, "b", "22");
        remove(v, "c");
        write(v, "e", "5");
        v.commit();
        // gone in both; gone here, changed there; changed here, gone there; came alike
        due("9: gone and changed", v.join(1, 2), 2);
        dueFiles("9: gone and changed", v, -1, "b=22 c=33 d=4 e=5");
        v.drop(0);
        due("9: common none", v.common(1, 2), -2);
        due("9: out of nothing", v.join(1, 2), 0);
        dueFiles("9: out of nothing", v, -1, "b=22 c=33 d=4 e=5");
        EditionVault x = new EditionVault();
        for (String a : new String[] {"zero", "one", "zero", "three"}) {
            x.rebuild(Math.min(1, x.count(4) - 1));
            write(x, "a", a);
            x.commit();
        }
        due("9: content 0 is one, too", x.join(2, 3), 1);
        dueFiles("9: content 0 is one, too", x, -1, "a=zero");
        x.rebuild(3);
        remove(x, "a");
        write(x, "a/b", "zero");
        x.commit();
        due("9: gone in one, so not above", x.join(3, 4), 0);
        dueFiles("9: gone in one, so not above", x, -1, "a/b=zero");
        write(x, "b", "b");
        x.commit();
        x.rebuild(4);
        write(x, "b/c", "zero");
        x.commit();
        due("9: left out though content 0", x.join(5, 6), 1);
        dueFiles("9: left out though content 0", x, -1, "a/b=zero b=b");
        EditionVault w = new EditionVault();
        w.commit();
        for (int i = 0; i < 7; i++) {
            write(w, "" + (char) ('a' + i), "" + i);
        }
        w.commit();
        w.rebuild(0);
        for (int i = 0; i < 6; i++) {
            write(w, "" + (char) ('h' + i), "" + i);
        }
        w.commit();
        due("9: thirteen", w.join(1, 2), -4);
        due("9: stage stays", w.count(0), 6);
        due("9: of stays", w.count(2), -2);
        w.rebuild(2);
        remove(w, "h");
        w.commit();
        due("9: twelve", w.join(1, 3), 0);
        due("9: twelve", w.count(0), 12);
        w.spoil(w.content(w.file(2, 0, 2), 2), 255);
        due("9: -3 ahead of -4", w.join(1, 2), -3);
    }

    private static void promise10() {
        EditionVault v = forked();
        v.join(1, 2);
        v.commit();
        due("10: none such", v.drop(4), -2);
        v.seal(1, true);
        due("10: sealed", v.drop(1), -3);
        v.seal(1, false);
        due("10: contents stay for others", v.drop(1), 0);
        due("10: was of it", v.of(3, 0), 0);
        due("10: also of stays", v.of(3, 1), 2);
        due("10: two", v.drop(2), 0);
        due("10: was also of it", v.of(3, 1), 0);
        v.join(3, 0);
        v.join(0, 3);
        v.drop(2);
        due("10: stage of another stays", v.count(1), 0);
        due("10: stage also of another stays", v.count(2), 3);
        v.join(3, 0);
        due("10: last", v.drop(0), 2);
        due("10: of none", v.of(3, 0), -2);
        due("10: also of none", v.of(3, 1), -2);
        due("10: stage of", v.count(1), 3);
        due("10: stage also of none", v.count(2), -2);
        due("10: contents", v.count(5), 3);
        due("10: all", v.drop(3), 3);
        due("10: stage of none", v.count(1), -2);
        due("10: all free", v.count(7), 400);
        due("10: free bytes stay", v.row(0), 'o');
        EditionVault w = chained();
        w.rebuild(3);
        remove(w, "a");
        remove(w, "b");
        remove(w, "c");
        w.commit();
        w.thin(2);
        due("10: all are there", w.count(5), 4);
        due("10: bases stay", w.drop(3), 0);
        due("10: all hang on it", w.drop(4), 4);
    }

    private static void promise11() {
        EditionVault v = forked();
        due("11: nothing to do", v.pack(), 0);
        v.spoil(399, 9);
        due("11: nothing moves", v.pack(), 0);
        due("11: but free bytes are 0", v.row(399), 0);
        v.rebuild(1);
        remove(v, "a");
        v.commit();
        v.drop(0);
        v.drop(2);
        v.drop(1);
        // 0 (3), 1 (4) and 4 (7) are gone: 2 (5) and 3 (6) are left
        due("11: kept", v.count(6), 11);
        due("11: moved", v.pack(), 11);
        due("11: place", v.content(2, 2), 0);
        due("11: place", v.content(3, 2), 5);
        dueRow("11", v, 0, 'T', 'W', 'O', '?', '?', 'f', 'o', 'u', 'r', '4', '4', 0);
        due("11: owner", v.owner(4), 2);
        due("11: owner", v.owner(10), 3);
        due("11: free", v.owner(11), -2);
        for (int place = 11; place < 400; place++) {
            due("11: 0 at " + place, v.row(place), 0);
        }
        due("11: whole", v.count(8), 0);
        EditionVault w = new EditionVault();
        write(w, "a", "12345");
        write(w, "b", "");
        write(w, "c", "67");
        w.commit();
        remove(w, "a");
        w.commit();
        w.drop(0);
        write(w, "d", "89ABCDEF");
        w.commit();
        // 2 at 5, the new one (0) ahead of it has no room: behind it
        due("11: hole", w.content(0, 2), 7);
        due("11: both move", w.pack(), 10);
        due("11: by place, not by number", w.content(2, 2), 0);
        due("11: behind", w.content(0, 2), 2);
        due("11: empty one stays", w.content(1, 2), 0);
    }

    private static void promise12() {
        EditionVault v = forked();
        due("12: place -1", v.spoil(-1, 0), -1);
        due("12: place 400", v.spoil(400, 0), -1);
        due("12: v -1", v.spoil(0, -1), -1);
        due("12: v 256", v.spoil(0, 256), -1);
        due("12: was", v.spoil(0, 255), 'o');
        due("12: is", v.row(0), 255);
        due("12: spoilt", v.count(8), 1);
        due("12: back", v.spoil(0, 'o'), 255);
        due("12: whole", v.count(8), 0);
        due("12: free", v.spoil(399, 7), 0);
        due("12: free is", v.row(399), 7);
        due("12: none is spoilt", v.count(8), 0);
    }

    private static void promise13() {
        EditionVault v = chained();
        String b = "#" + LONG.substring(0, 30) + "#";
        due("13: none such", mend(v, 4, "x"), -2);
        due("13: tape is empty", v.count(11), 0);
        due("13: whole ones too", mend(v, 0, LONG), 1);
        due("13: other bytes", mend(v, 0, LONG.substring(1) + "a"), -3);
        due("13: not its length", mend(v, 0, LONG.substring(1)), -3);
        v.spoil(0, 'z');
        v.spoil(40, 9);
        due("13: all are spoilt", v.count(8), 4);
        due("13: -3 ahead of -4", mend(v, 1, b + "+"), -3);
        due("13: base is spoilt", mend(v, 1, b), -4);
        tape(v, LONG);
        due("13: n -1", v.mend(0, -1), -1);
        due("13: n 41", v.mend(0, 41), -1);
        due("13: NONE ahead of -2", v.mend(4, 41), -1);
        due("13: tape stays", v.count(11), 40);
        due("13: plain", v.mend(0, 40), 1);
        due("13: tape is empty", v.count(11), 0);
        due("13: not so many", v.mend(0, 1), -1);
        due("13: by its base, others are by it", v.count(8), 3);
        due("13: pieces", mend(v, 1, b), 1);
        due("13: all are whole", v.count(8), 0);
        dueRow("13: pieces", v, 40, 1, '#', 128, 30, 1, '#');
        EditionVault w = new EditionVault();
        write(w, "a", "");
        w.commit();
        tape(w, "x");
        due("13: empty one", w.mend(0, 0), 1);
        due("13: empty one, tape", w.count(11), 0);
        otherRoom();
    }

    /** A base mended by other bytes of its mark, so that pieces by it take other room. */
    private static void otherRoom() {
        EditionVault v = new EditionVault();
        String base = "abcdefgh";
        // one more in a byte and 31 less in the next one keep the mark
        String alike = "abcdegH" + "h";
        due("13: of like mark", mark(alike), mark(base));
        write(v, "a", base);
        write(v, "b", "abcdefx");
        v.commit();
        due("13: by it", v.content(1, 3), 4);
        due("13: other bytes of its mark", mend(v, 0, alike), 1);
        due("13: they are there", v.at(0, 0, true, 6), 'H');
        due("13: what is by it is spoilt", v.content(1, 9), 0);
        due("13: other room", mend(v, 1, "abcdefx"), -4);
        due("13: and back", mend(v, 0, base), 1);
        due("13: whole again", v.count(8), 0);
    }

    private static void promise14() {
        EditionVault v = chained();
        due("14: nothing is spoilt", v.cure(), 0);
        v.spoil(2, 'z');
        v.spoil(41, 'z');
        v.spoil(49, 'z');
        due("14: all are spoilt", v.count(8), 4);
        remove(v, "a");
        due("14: the first can not", v.cure(), 0);
        write(v, "z", LONG);
        due("14: three by hand, the fourth by its base", v.cure(), 3);
        due("14: all are whole", v.count(8), 0);
        due("14: nothing more", v.cure(), 0);
        EditionVault w = new EditionVault();
        write(w, "a", "1");
        w.commit();
        write(w, "b", LONG);
        w.commit();
        remove(w, "a");
        w.commit();
        w.drop(0);
        w.drop(1);
        write(w, "a", LONG + "");
        write(w, "c", "-" + LONG.substring(5));
        w.commit();
        due("14: by one of a greater number", w.content(0, 4), 1);
        w.spoil(w.content(0, 2) + 1, 'x');
        w.spoil(w.content(1, 2) + 8, 'x');
        due("14: both are spoilt", w.count(8), 2);
        due("14: again", w.cure(), 2);
        due("14: whole", w.count(8), 0);
    }

    private static void promise15() {
        EditionVault v = chained();
        due("15: place -1", v.risk(-1, 0), -1);
        due("15: place 400", v.risk(400, 0), -1);
        due("15: what 2", v.risk(0, 2), -1);
        due("15: what -1", v.risk(0, -1), -1);
        due("15: contents on the first", v.risk(39, 0), 4);
        due("15: paths on the first", v.risk(39, 1), 10);
        due("15: contents on the second", v.risk(40, 0), 3);
        due("15: paths on the second", v.risk(40, 1), 6);
        due("15: contents on the last", v.risk(v.content(3, 2), 0), 1);
        due("15: paths on the last", v.risk(v.content(3, 2), 1), 1);
        due("15: free", v.risk(399, 0), 0);
        due("15: free", v.risk(399, 1), 0);
        v.rebuild(3);
        copy(v, "d", "e");
        v.commit();
        due("15: two of one list", v.risk(v.content(3, 2), 1), 3);
    }

    private static void promise16() {
        EditionVault v = new EditionVault();
        due("16: none", v.weakest(0), -2);
        due("16: none", v.weakest(1), 0);
        write(v, "a", "12");
        write(v, "b", "34");
        v.commit();
        due("16: of like ones the least", v.weakest(0), 0);
        due("16: one", v.weakest(1), 1);
        remove(v, "a");
        v.commit();
        due("16: the second", v.weakest(0), 2);
        due("16: two", v.weakest(1), 2);
        due("16: what 2", v.weakest(2), -1);
        due("16: what -1", v.weakest(-1), -1);
        EditionVault w = chained();
        due("16: by what is by it", w.weakest(1), 10);
        due("16: its place", w.weakest(0), 0);
        EditionVault x = new EditionVault();
        write(x, "a", "");
        x.commit();
        due("16: an empty one has no byte", x.weakest(0), -2);
        due("16: an empty one has no byte", x.weakest(1), 0);
    }

    private static void promise17() {
        EditionVault v = forked();
        // alone: 0 has 1 only with 2 (4), 1 has 2 and 3 (11), 2 has 4 (7)
        due("17: none", v.drops(0, 0), 0);
        due("17: none", v.drops(0, 1), 0);
        due("17: none", v.drops(0, 2), 0);
        due("17: one", v.drops(7, 0), 1);
        due("17: of as few the least", v.drops(7, 1), 2);
        due("17: less", v.drops(7, 2), 11);
        due("17: just", v.drops(11, 0), 1);
        due("17: two", v.drops(12, 0), 2);
        due("17: which", v.drops(12, 1), 3);
        due("17: less", v.drops(12, 2), 14);
        due("17: which", v.drops(15, 1), 6);
        due("17: less", v.drops(15, 2), 18);
        due("17: all", v.drops(25, 1), 7);
        due("17: all", v.drops(25, 0), 3);
        due("17: more", v.drops(26, 0), -2);
        due("17: more", v.drops(400, 2), -2);
        v.seal(1, true);
        due("17: sealed ones stay", v.drops(7, 1), 4);
        due("17: sealed ones stay", v.drops(25, 1), -2);
        due("17: nothing is dropped", v.count(3), 3);
        EditionVault w = new EditionVault();
        for (int i = 0; i < 10; i++) {
            write(w, "a", "" + (char) (i + 1));
            w.commit();
        }
        due("17: all ten", w.drops(10, 0), 10);
        due("17: all ten", w.drops(10, 1), 1023);
        due("17: nine of ten", w.drops(9, 1), 511);
        due("17: bytes -1", v.drops(-1, 0), -1);
        due("17: bytes 401", v.drops(401, 0), -1);
        due("17: what 3", v.drops(0, 3), -1);
        due("17: what -1", v.drops(0, -1), -1);
    }

    private static void promise18() {
        EditionVault v = forked();
        due("18: all but three", v.thin(3), 0);
        due("18: all but ten", v.thin(10), 0);
        due("18: editions", v.count(3), 3);
        due("18: -1", v.thin(-1), -1);
        due("18: 11", v.thin(11), -1);
        v.seal(0, true);
        due("18: sealed aside", v.thin(1), 2);
        due("18: left", v.edition(0), 0);
        due("18: left", v.edition(1), 2);
        due("18: no more", v.edition(2), -1);
        v.seal(0, false);
        due("18: all", v.thin(0), 3);
        due("18: none left", v.count(3), 0);
        due("18: none left", v.count(5), 0);
        EditionVault w = forked();
        due("18: the oldest first", w.thin(1), 3);
        due("18: of none", w.of(2, 0), -2);
    }

    private static void promise19() {
        EditionVault v = chained();
        due("19: as it is", v.thrift(), v.count(6));
        v.rebuild(3);
        remove(v, "a");
        remove(v, "b");
        v.commit();
        v.thin(1);
        // the first two are bases alone now: 2 plain (33), 3 by it (4)
        due("19: contents", v.count(5), 4);
        due("19: anew", v.thrift(), 33 + 4);
        v.spoil(v.content(3, 2) + v.content(3, 3) - 1, 1);
        due("19: spoilt", v.thrift(), -2);
        EditionVault w = new EditionVault();
        due("19: nothing", w.thrift(), 0);
        EditionVault x = thirds(9 * 27);
        due("19: it has room as it is", x.count(6), 390);
        due("19: no room", x.thrift(), -3);
        x.spoil(x.content(11, 2) + 39, 0);
        due("19: only the last is spoilt", x.count(8), 1);
        due("19: no room comes first by numbers", x.thrift(), -3);
        x.spoil(x.content(8, 2), 0);
        due("19: spoilt comes first by numbers", x.thrift(), -2);
    }

    private static void promise20() {
        EditionVault v = chained();
        due("20: by itself", v.pieces(0, 0), 2);
        due("20: as it is", v.pieces(1, 0), 6);
        due("20: by a greater number", v.pieces(0, 1), 2 + 1 + 10);
        due("20: none such", v.pieces(4, 0), -1);
        due("20: none such", v.pieces(0, 4), -1);
        due("20: none such", v.pieces(-1, 0), -1);
        due("20: none such", v.pieces(0, 40), -1);
        v.spoil(v.content(3, 2) + v.content(3, 3) - 1, 0);
        due("20: the one is spoilt", v.pieces(3, 0), -2);
        due("20: the other is spoilt", v.pieces(0, 3), -2);
        due("20: NONE ahead of -2", v.pieces(3, 4), -1);
        EditionVault w = new EditionVault();
        write(w, "a", "");
        write(w, "b", "12");
        w.commit();
        due("20: of nothing", w.pieces(0, 1), 0);
        due("20: by nothing", w.pieces(1, 0), 3);
        due("20: too short for a run", w.pieces(1, 1), 3);
    }

    private static void promise21() {
        EditionVault v = new EditionVault();
        write(v, "a/b", "1");
        write(v, "a/c", "2");
        write(v, "ab", "3");
        v.commit();
        remove(v, "a");
        write(v, "a/d", "4");
        write(v, "c", "5");
        v.commit();
        tape(v, "a");
        due("21: p 0", v.fetch(0, 0), -1);
        due("21: p 13", v.fetch(0, 13), -1);
        due("21: NONE ahead of -2", v.fetch(5, 13), -1);
        due("21: tape stays", v.count(11), 20);
        due("21: two", v.fetch(0, 1), 2);
        due("21: tape is empty", v.count(11), 0);
        dueFiles("21", v, -1, "a/b=1 a/c=2 ab=3 c=5");
        due("21: of stays", v.count(1), 1);
        due("21: not so many", v.fetch(0, 1), -1);
        due("21: no such edition", fetch(v, 2, "a"), -2);
        due("21: tape is empty after -2", v.count(11), 0);
        due("21: -2 ahead of -3", fetch(v, 2, "a/"), -2);
        due("21: no path", fetch(v, 0, "a/"), -3);
        due("21: it has none", fetch(v, 0, "c"), -3);
        due("21: one", fetch(v, 1, "a/d"), 1);
        dueFiles("21: one", v, -1, "a/b=1 a/c=2 a/d=4 ab=3 c=5");
        remove(v, "a");
        write(v, "a", "now a file");
        due("21: below one", fetch(v, 0, "a/b"), -5);
        due("21: in its place", fetch(v, 0, "a"), 2);
        remove(v, "ab");
        write(v, "ab/c", "6");
        due("21: in its place again", fetch(v, 0, "ab"), 1);
        v.spoil(v.content(1, 2), 0);
        due("21: spoilt", fetch(v, 0, "a"), -4);
        due("21: tape is empty after -4", v.count(11), 0);
        due("21: others are not", fetch(v, 0, "a/b"), 1);
        v.spoil(v.content(1, 2), '2');
        v.spoil(v.content(0, 2), 0);
        due("21: the first is spoilt", fetch(v, 0, "a"), -4);
        v.spoil(v.content(0, 2), '1');
        v.spoil(v.content(1, 2), 0);
        fill(v);
        due("21: twelve", v.count(0), 12);
        due("21: more than twelve", fetch(v, 1, "a/d"), -5);
        due("21: in place among twelve", fetch(v, 0, "a/b"), 1);
        due("21: twelve stay", v.count(0), 12);
    }

    private static void fill(EditionVault v) {
        for (int i = 0; v.count(0) < 12; i++) {
            write(v, "z/" + (char) ('a' + i), "x");
        }
    }

    private static void promise22() {
        EditionVault v = new EditionVault();
        for (String p : new String[] {"a", "ab", "abc", "b/a", "b/ab", "b/c/a", "xyyx", "xyzx"}) {
            write(v, p, p);
        }
        v.commit();
        due("22: one letter", like(v, 0, "?", -1), 1);
        due("22: stays", v.count(11), 20);
        due("22: letters", like(v, 0, "*", -1), 5);
        due("22: two parts", like(v, 0, "*/*", -1), 2);
        due("22: the second", like(v, 0, "*/*", 1), 4);
        due("22: not so many", like(v, 0, "*/*", 2), -3);
        due("22: for themselves", like(v, 0, "b/c/a", 0), 5);
        due("22: a part of one", like(v, 0, "b/c", -1), 0);
        due("22: no letter too", like(v, 0, "ab*", -1), 2);
        due("22: one at least", like(v, 0, "ab?*", 0), 2);
        due("22: back and forth", like(v, 0, "x*x", -1), 2);
        due("22: back and forth", like(v, 0, "*y*y*", -1), 1);
        due("22: a slash is no letter", like(v, 0, "b?a", -1), 0);
        due("22: a slash is no letter", like(v, 0, "b*a", -1), 0);
        due("22: nothing like it", like(v, 0, "//", -1), 0);
        due("22: nothing like it", like(v, 0, "//", 0), -3);
        due("22: twelve", like(v, 0, "????????????", -1), 0);
        due("22: other bytes", like(v, 0, "a.", -1), -2);
        due("22: other bytes", like(v, 0, "A", -1), -2);
        due("22: -2 ahead of -3", like(v, 0, "A", 3), -2);
        due("22: no edition", like(v, 1, "A", 0), -1);
        due("22: k -2", like(v, 0, "a", -2), -1);
        due("22: q 0", v.like(0, 0, -1), -1);
        due("22: q 13", v.like(0, 13, -1), -1);
        clear(v);
        due("22: not so many bytes", v.like(0, 1, -1), -1);
    }

    private static void promise23() {
        EditionVault v = forked();
        v.join(1, 2);
        int[] want = {3, 1, 2, 3, 3, 5, 25, 375, 0, 0, 7 + 14 + 11, 0, 0, 0, 0};
        for (int i = 0; i < want.length; i++) {
            due("23: count(" + i + ")", v.count(i), want[i]);
        }
        due("23: 15", v.count(15), -1);
        due("23: -1", v.count(-1), -1);
        v.spoil(0, 0);
        due("23: spoilt", v.count(8), 1);
        due("23: touched", v.count(9), 2);
        v.feed(1, 2, 3, 4, 5);
        due("23: tape", v.count(11), 20);
        v.drop(1);
        due("23: the longest free run", v.count(7), 375);
        due("23: kept", v.count(6), 14);
        v.pack();
        due("23: the longest free run", v.count(7), 386);
        due("23: next", v.count(4), 3);
        EditionVault w = chained();
        due("23: by a base", w.count(12), 3);
        due("23: depth", w.count(13), 3);
        w.spoil(0, 0);
        due("23: all by it are spoilt", w.count(8), 4);
        due("23: all touched", w.count(9), 10);
        w.spoil(0, 'a');
        w.spoil(39, 0);
        due("23: those that do not take it are whole", w.count(8), 1);
    }

    private static void promise24() {
        EditionVault v = forked();
        due("24: first", v.edition(0), 0);
        due("24: last", v.edition(2), 2);
        due("24: not so many", v.edition(3), -1);
        due("24: below 0", v.edition(-1), -1);
        v.drop(1);
        v.commit();
        write(v, "q", "q");
        v.commit();
        due("24: rising", v.edition(1), 2);
        due("24: rising", v.edition(2), 3);
    }

    private static void promise25() {
        EditionVault v = forked();
        v.join(1, 2);
        v.commit();
        int[] first = {-2, -2, 2, 7, 4, 1, mark("a=" + mark("one") + ";b/c=" + mark("two!") + ";"), 0, 0};
        int[] last = {1, 2, 3, 18, 0, 4,
            mark("a=" + mark("ONE1234") + ";b/c=" + mark("TWO??") + ";d=" + mark("four44") + ";"), 0, 0};
        v.drop(2);
        v.drop(1);
        last[0] = 0;
        last[1] = 0;
        last[4] = 18;
        last[5] = 2;
        first[4] = 7;
        for (int what = 0; what <= 8; what++) {
            due("25: of(0, " + what + ")", v.of(0, what), first[what]);
            due("25: of(3, " + what + ")", v.of(3, what), last[what]);
        }
        due("25: what 9", v.of(0, 9), -1);
        due("25: what -1", v.of(0, -1), -1);
        due("25: none such", v.of(1, 0), -1);
        due("25: the stage is none", v.of(-1, 2), -1);
        v.seal(0, true);
        name(v, 0, "first");
        due("25: sealed", v.of(0, 7), 1);
        due("25: name", v.of(0, 8), 5);
        due("25: alone though sealed", v.of(0, 4), 7);
        EditionVault w = chained();
        due("25: alone, but bases", w.of(3, 4), w.content(3, 3));
        due("25: shared", w.of(2, 4), 0);
        due("25: ancestors", w.of(3, 5), 4);
        EditionVault x = forked();
        x.join(1, 2);
        x.commit();
        due("25: ancestors of a joined one", x.of(3, 5), 4);
        due("25: alone", x.of(0, 4), 0);
    }

    private static void promise26() {
        EditionVault v = forked();
        due("26: none such", v.seal(3, true), -2);
        due("26: none such", v.seal(-1, true), -2);
        due("26: it is so", v.seal(0, false), -3);
        due("26: seal", v.seal(0, true), 1);
        due("26: it is so", v.seal(0, true), -3);
        due("26: drop", v.drop(0), -3);
        due("26: open", v.seal(0, false), 1);
        due("26: drop", v.drop(0), 0);
        v.seal(1, true);
        v.seal(1, false);
        v.seal(2, true);
        v.seal(2, false);
        v.seal(2, true);
        v.thin(0);
        due("26: a new one is not", v.of(2, 7), 1);
        write(v, "n", "n");
        due("26: a new one is not", v.of(v.commit(), 7), 0);
    }

    private static void promise27() {
        EditionVault v = forked();
        due("27: a name", name(v, 0, "abcdefghijkl"), 12);
        due("27: tape is empty", v.count(11), 0);
        due("27: length", v.of(0, 8), 12);
        due("27: another one", name(v, 1, "x"), 1);
        due("27: another one has it", name(v, 1, "abcdefghijkl"), -4);
        due("27: stays", v.nameByte(1, 0), 'x');
        due("27: its own", name(v, 1, "x"), 1);
        due("27: none such", name(v, 3, "y"), -2);
        due("27: tape is empty after -2", v.count(11), 0);
        due("27: no name", name(v, 1, "a/b"), -3);
        due("27: no name", name(v, 1, "aB"), -3);
        due("27: no name", name(v, 1, "B"), -3);
        due("27: no name", name(v, 1, "/"), -3);
        due("27: tape is empty after -3", v.count(11), 0);
        tape(v, "x/");
        due("27: what comes behind it is not looked at", v.name(1, 1), 1);
        due("27: -2 ahead of -3", name(v, 3, "aB"), -2);
        tape(v, "abcdefghijklm");
        due("27: q 13", v.name(0, 13), -1);
        due("27: q -1", v.name(0, -1), -1);
        due("27: NONE ahead of -2", v.name(7, 13), -1);
        due("27: tape stays", v.count(11), 20);
        due("27: none", v.name(0, 0), 0);
        due("27: none, tape is empty", v.count(11), 0);
        due("27: none", v.of(0, 8), 0);
        due("27: none, two of them", v.name(1, 0), 0);
        due("27: not so many", v.name(0, 1), -1);
        due("27: free again", name(v, 2, "abcdefghijkl"), 12);
        v.drop(2);
        due("27: free by a drop", name(v, 1, "abcdefghijkl"), 12);
        write(v, "n", "n");
        due("27: a new one has none", v.of(v.commit(), 8), 0);
    }

    private static void promise28() {
        EditionVault v = forked();
        name(v, 1, "one");
        name(v, 2, "o");
        due("28: one", named(v, "one"), 1);
        due("28: stays", v.count(11), 20);
        due("28: its beginning", v.named(1), 2);
        due("28: none", v.named(2), -2);
        due("28: no name", named(v, "o/o"), -2);
        due("28: no name", named(v, "//"), -2);
        due("28: q 0", v.named(0), -1);
        due("28: q 13", v.named(13), -1);
        due("28: q -1", v.named(-1), -1);
        clear(v);
        due("28: not so many", v.named(1), -1);
        v.drop(1);
        due("28: gone", named(v, "one"), -2);
    }

    private static void promise29() {
        EditionVault v = forked();
        name(v, 1, "one");
        due("29: byte", v.nameByte(1, 0), 'o');
        due("29: byte", v.nameByte(1, 2), 'e');
        due("29: not so many", v.nameByte(1, 3), -2);
        due("29: not so many", v.nameByte(1, Integer.MAX_VALUE), -2);
        due("29: no name", v.nameByte(0, 0), -2);
        due("29: no such one", v.nameByte(3, 0), -1);
        due("29: below 0", v.nameByte(1, -1), -1);
        name(v, 0, "abcdefghijkz");
        due("29: last", v.nameByte(0, 11), 'z');
        due("29: behind", v.nameByte(0, 12), -2);
    }

    private static void promise30() {
        EditionVault v = forked();
        due("30: from 0 on", v.came(1, 0), 0);
        due("30: own", v.came(1, 1), 1);
        due("30: own", v.came(2, 0), 2);
        due("30: the first", v.came(0, 1), 0);
        v.join(1, 2);
        write(v, "e", "one");
        v.commit();
        due("30: not by also of", v.came(3, 0), 3);
        due("30: by of", v.came(3, 1), 1);
        due("30: at its path alone", v.came(3, 3), 3);
        write(v, "a", "one");
        v.commit();
        due("30: not over a gap", v.came(4, 0), 4);
        due("30: not so many", v.came(4, 4), -1);
        due("30: below 0", v.came(4, -1), -1);
        due("30: no such one", v.came(5, 0), -1);
        v.drop(3);
        due("30: the gap goes", v.came(4, 0), 0);
    }

    private static void promise31() {
        EditionVault v = new EditionVault();
        write(v, "a/b", "123");
        write(v, "a/c", "45");
        write(v, "ab", "6");
        write(v, "e", "");
        v.commit();
        due("31: below", weigh(v, 0, "a"), 5);
        due("31: stays", v.count(11), 20);
        due("31: itself", weigh(v, 0, "a/b"), 3);
        due("31: none", weigh(v, 0, "b"), -2);
        due("31: an empty one", weigh(v, 0, "e"), 0);
        due("31: no path", weigh(v, 0, "a/"), -2);
        due("31: no such one", weigh(v, 1, "a"), -1);
        due("31: p 0", v.weigh(0, 0), -1);
        due("31: p 13", v.weigh(0, 13), -1);
        clear(v);
        due("31: not so many", v.weigh(0, 1), -1);
        v.spoil(0, 0);
        due("31: spoilt ones, too", weigh(v, 0, "a"), 5);
    }

    private static void promise32() {
        EditionVault v = forked();
        due("32: path", v.file(1, 1, 0), 3);
        due("32: bytes", v.file(1, 1, 1), 5);
        due("32: content", v.file(1, 1, 2), 2);
        due("32: not so many", v.file(1, 3, 0), -1);
        due("32: below 0", v.file(1, -1, 0), -1);
        due("32: what 3", v.file(1, 0, 3), -1);
        due("32: what -1", v.file(1, 0, -1), -1);
        due("32: no such one", v.file(3, 0, 0), -1);
        due("32: no such one", v.file(-2, 0, 0), -1);
        due("32: the stage's path", v.file(-1, 1, 0), 3);
        due("32: the stage's bytes", v.file(-1, 0, 1), 7);
        due("32: the stage's content", v.file(-1, 0, 2), 4);
        write(v, "a", "new");
        due("32: none", v.file(-1, 0, 2), -2);
        due("32: the stage, not so many", v.file(-1, 2, 0), -1);
        due("32: the stage, below 0", v.file(-1, -1, 0), -1);
        due("32: the stage, what 3", v.file(-1, 0, 3), -1);
        write(v, "a", "ONE1234");
        v.spoil(v.content(4, 2), 0);
        due("32: not a spoilt one", v.file(-1, 0, 2), -2);
        due("32: spoilt in a list", v.file(2, 0, 2), 4);
        v.commit();
        v.spoil(v.content(4, 2), 'O');
        due("32: the least of two", v.file(-1, 0, 2), 4);
    }

    private static void promise33() {
        EditionVault v = forked();
        due("33: path", v.at(0, 1, false, 1), '/');
        due("33: path, not so many", v.at(0, 1, false, 3), -2);
        due("33: bytes", v.at(0, 1, true, 3), '!');
        due("33: bytes, not so many", v.at(0, 1, true, 4), -2);
        due("33: k -1", v.at(0, 1, true, -1), -1);
        due("33: k -1", v.at(0, 1, false, -1), -1);
        due("33: no such file", v.at(0, 2, true, 0), -1);
        due("33: no such file", v.at(0, -1, true, 0), -1);
        due("33: no such edition", v.at(3, 0, true, 0), -1);
        due("33: the stage", v.at(-1, 0, true, 6), '4');
        due("33: the stage, not so many", v.at(-1, 0, true, 7), -2);
        due("33: the stage's path", v.at(-1, 0, false, 0), 'a');
        due("33: the stage's path, not so many", v.at(-1, 0, false, 12), -2);
        due("33: the stage, no such file", v.at(-1, 2, false, 0), -1);
        v.spoil(0, 200);
        due("33: spoilt ones can be read", v.at(0, 0, true, 0), 200);
        EditionVault w = chained();
        int place = w.content(1, 2);
        w.spoil(place, 0);
        due("33: can't be read", w.at(1, 1, true, 0), -3);
        due("33: -2 ahead of -3", w.at(1, 1, true, 32), -2);
        due("33: its path can", w.at(1, 1, false, 0), 'b');
        due("33: nor can what is by it", w.at(3, 3, true, 0), -3);
    }

    private static void promise34() {
        EditionVault v = chained();
        String b = "#" + LONG.substring(0, 30) + "#";
        int[] want = {32, mark(b), 40, 6, 0, 1, 3, 1, 1, 1, -1};
        for (int what = 0; what < want.length; what++) {
            due("34: content(1, " + what + ")", v.content(1, what), want[what]);
        }
        due("34: plain", v.content(0, 4), -2);
        due("34: paths", v.content(0, 6), 4);
        due("34: what -1", v.content(0, -1), -1);
        due("34: none such", v.content(4, 0), -1);
        due("34: none such", v.content(-1, 0), -1);
        due("34: none such", v.content(40, 6), -1);
        v.spoil(41, '!');
        due("34: can be read", v.content(1, 8), 1);
        due("34: not whole", v.content(1, 9), 0);
        due("34: mark as told", v.content(1, 1), mark(b));
        // 40: 1 # 128 30 1 #
        int[][] bad = {{40, 0}, {40, 7}, {43, 29}, {43, 31}, {43, 0}, {43, 40}, {42, 139}, {42, 30}, {44, 200}, {44, 2}};
        for (int[] one : bad) {
            int was = v.spoil(one[0], one[1]);
            due("34: can't be read with " + one[1] + " at " + one[0], v.content(1, 8), 0);
            due("34: nor what is by it", v.content(2, 8), 0);
            due("34: not whole with " + one[1] + " at " + one[0], v.content(1, 9), 0);
            v.spoil(one[0], was);
            due("34: can be read again", v.content(1, 8), 1);
        }
        EditionVault w = new EditionVault();
        write(w, "a", LONG);
        write(w, "b", b);
        w.commit();
        // 4 # 128 30 1 128, and behind it a byte that is not its own: so many would be 32 in all
        w.spoil(40, 4);
        w.spoil(45, 128);
        w.spoil(46, 28);
        due("34: no byte behind", w.content(1, 8), 0);
        v.spoil(42, 138);
        due("34: from another place", v.content(1, 8), 1);
        due("34: from another place", v.at(1, 1, true, 1), 'k');
        v.drop(3);
        due("34: no base any more", v.content(2, 7), 0);
        due("34: gone", v.content(3, 0), -1);
    }

    private static void promise35() {
        EditionVault v = forked();
        due("35: first", v.row(0), 'o');
        due("35: free", v.row(25), 0);
        due("35: last", v.row(399), 0);
        due("35: -1", v.row(-1), -1);
        due("35: 400", v.row(400), -1);
    }

    private static void promise36() {
        EditionVault v = forked();
        int[] ends = {3, 7, 12, 18, 25};
        for (int place = 0, c = 0; place < 25; place++) {
            c += place == ends[c] ? 1 : 0;
            due("36: owner(" + place + ")", v.owner(place), c);
        }
        due("36: free", v.owner(25), -2);
        due("36: -1", v.owner(-1), -1);
        due("36: 400", v.owner(400), -1);
        v.drop(2);
        due("36: free again", v.owner(18), -2);
    }

    private static void promise37() {
        EditionVault v = forked();
        v.rebuild(1);
        move(v, "a", "e");
        copy(v, "e", "f");
        remove(v, "d");
        v.commit();
        // 1: a b/c d -> 3: b/c e f; a d gone, e f come
        due("37: how many", v.change(1, 3, -1, 0), 4);
        int[][] want = {{1, 0, -2, -2}, {1, 2, -2, -2}, {0, -2, 1, 0}, {0, -2, 2, 0}};
        for (int k = 0; k < 4; k++) {
            for (int what = 0; what < 4; what++) {
                due("37: change(1, 3, " + k + ", " + what + ")", v.change(1, 3, k, what), want[k][what]);
            }
        }
        due("37: back", v.change(3, 1, 0, 3), 1);
        due("37: not moved", v.change(3, 1, 1, 3), -2);
        due("37: other contents", v.change(0, 1, 0, 0), 2);
        due("37: other contents", v.change(0, 1, 0, 1), 1);
        due("37: other contents", v.change(0, 1, 0, 2), 1);
        due("37: other contents", v.change(0, 1, 0, 3), -2);
        due("37: not so many", v.change(0, 1, 2, 0), -1);
        due("37: k -2", v.change(0, 1, -2, 0), -1);
        due("37: how many, what 1", v.change(0, 1, -1, 1), -1);
        due("37: what 4", v.change(0, 1, 0, 4), -1);
        due("37: what -1", v.change(0, 1, 0, -1), -1);
        due("37: no such one", v.change(0, 4, -1, 0), -1);
        due("37: no such one", v.change(4, 0, -1, 0), -1);
        due("37: the same", v.change(1, 1, -1, 0), 0);
        EditionVault w = new EditionVault();
        for (int i = 0; i < 12; i++) {
            write(w, "" + (char) ('a' + i), "");
        }
        w.commit();
        for (int i = 0; i < 12; i++) {
            move(w, "" + (char) ('a' + i), "" + (char) ('m' + i));
        }
        w.commit();
        due("37: all paths of both", w.change(0, 1, -1, 0), 24);
        due("37: the last", w.change(0, 1, 23, 2), 11);
        due("37: moved, the first with its content", w.change(0, 1, 23, 3), 0);
        v.rebuild(0);
        copy(v, "a", "c");
        v.commit();
        due("37: one that is still there did not move", v.change(0, 4, 0, 3), -2);
        due("37: it came", v.change(0, 4, 0, 0), 0);
    }

    private static void promise38() {
        EditionVault v = forked();
        due("38: both of it", v.common(1, 2), 0);
        due("38: itself", v.common(2, 2), 2);
        due("38: the one is of the other", v.common(0, 2), 0);
        due("38: no such one", v.common(0, 3), -1);
        due("38: no such one", v.common(-1, 0), -1);
        v.join(1, 2);
        v.commit();
        due("38: by also of", v.common(3, 2), 2);
        due("38: the greatest", v.common(3, 1), 1);
        v.drop(0);
        due("38: none", v.common(1, 2), -2);
        due("38: by also of", v.common(2, 3), 2);
    }

    private static void promise39() {
        EditionVault v = forked();
        due("39: none", v.touched(0, 0), -1);
        v.spoil(0, 0);
        v.spoil(3, 0);
        int[][] want = {{0, 0, 0}, {0, 1, 1}, {1, 0, 0}, {2, 1, 1}};
        for (int k = 0; k < 4; k++) {
            for (int what = 0; what < 3; what++) {
                due("39: touched(" + k + ", " + what + ")", v.touched(k, what), want[k][what]);
            }
        }
        v.spoil(v.content(4, 2), 0);
        due("39: its place", v.touched(3, 1), 0);
        due("39: its content", v.touched(3, 2), 4);
        v.spoil(v.content(4, 2), 'O');
        due("39: not so many", v.touched(4, 0), -1);
        due("39: k -1", v.touched(-1, 0), -1);
        due("39: what 3", v.touched(0, 3), -1);
        due("39: what -1", v.touched(0, -1), -1);
    }

    private static void promise40() {
        EditionVault v = forked();
        String text = "a=" + mark("one") + ";b/c=" + mark("two!") + ";";
        due("40: how many", v.told(0, -1), text.length());
        for (int i = 0; i < text.length(); i++) {
            due("40: told(0, " + i + ")", v.told(0, i), text.charAt(i));
        }
        due("40: not so many", v.told(0, text.length()), -4);
        due("40: i -2", v.told(0, -2), -1);
        due("40: no such one", v.told(3, -1), -1);
        v.spoil(0, 0);
        due("40: marks as told", v.told(0, 2), text.charAt(2));
        EditionVault w = new EditionVault();
        write(w, "a", "");
        write(w, "b", "" + (char) 0);
        w.commit();
        due("40: few digits", w.told(0, -1), 4 + 6);
        due("40: 7", w.told(0, 2), '7');
        due("40: 218", w.told(0, 8), '8');
        for (int wanted : new int[] {0, 1, 9, 10, 99, 100, 999, 1000, 9999, 10000, 65520}) {
            EditionVault y = new EditionVault();
            write(y, "a", marked(wanted));
            y.commit();
            String digits = "a=" + wanted + ";";
            due("40: digits of " + wanted, y.told(0, -1), digits.length());
            for (int i = 0; i < digits.length(); i++) {
                due("40: digit " + i + " of " + wanted, y.told(0, i), digits.charAt(i));
            }
        }
        EditionVault x = new EditionVault();
        x.commit();
        due("40: nothing", x.told(0, -1), 0);
        due("40: nothing", x.told(0, 0), -4);
    }

    private static void promise41() {
        EditionVault v = forked();
        due("41: first", since(v, "a", 0), 0);
        due("41: stays", v.count(11), 20);
        due("41: second", since(v, "a", 1), 2);
        due("41: no third", since(v, "a", 2), -2);
        due("41: another path", since(v, "b/c", 1), 1);
        due("41: one", since(v, "d", 0), 1);
        due("41: above one is none", since(v, "b", 0), -2);
        due("41: no path", since(v, "b/", 0), -2);
        due("41: k -1", since(v, "a", -1), -1);
        due("41: p 0", v.since(0, 0), -1);
        due("41: p 13", v.since(13, 0), -1);
        clear(v);
        due("41: not so many", v.since(1, 0), -1);
        v.drop(0);
        due("41: that one is none", since(v, "a", 0), 1);
        v.join(2, 1);
        v.commit();
        due("41: not by also of", since(v, "d", 1), 3);
        due("41: not by also of", since(v, "a", 2), -2);
    }

    public static void main(String[] args) {
        promise1();
        promise2();
        promise3();
        promise4();
        promise5();
        promise6();
        promise7();
        promise7Keeping();
        promise7Room();
        promise8();
        promise9();
        promise9More();
        promise10();
        promise11();
        promise12();
        promise13();
        promise14();
        promise15();
        promise16();
        promise17();
        promise18();
        promise19();
        promise20();
        promise21();
        promise22();
        promise23();
        promise24();
        promise25();
        promise26();
        promise27();
        promise28();
        promise29();
        promise30();
        promise31();
        promise32();
        promise33();
        promise34();
        promise35();
        promise36();
        promise37();
        promise38();
        promise39();
        promise40();
        promise41();
        end();
    }
}
