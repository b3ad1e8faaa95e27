/**
 * A vault of editions in little room: see README.md. All rows that calls work with are made by the
 * constructor, because the room of a run is small; no call makes an object.
 */
public final class EditionVault {
    public static final int NONE = -1;

    /** What stands for "none" where a number is asked for. */
    private static final int NOTHING = -2;
    /** The number by which callers mean the stage where they else name an edition. */
    private static final int THE_STAGE = -1;
    private static final int MOST_SIGNS = 12;
    private static final int MOST_FILES = 12;
    private static final int MOST_BYTES = 40;
    private static final int MOST_EDITIONS = 10;
    private static final int MOST_NUMBERS = 100;
    private static final int MOST_CONTENTS = 40;
    private static final int MOST_DEPTH = 3;
    private static final int LEAST_RUN = 3;
    private static final int ROW_SIZE = 400;
    private static final int TAPE_SIZE = 160;
    private static final int FEED_SIZE = 20;
    private static final int TEXT_SIZE = 240;
    /** Far more rounds than cure() can need: a round ends the work unless it mends one. */
    private static final int MOST_ROUNDS = 1000;
    private static final int MARK_START = 7;
    private static final int MARK_MODULUS = 65521;
    /** From this byte on a piece takes bytes of the base. */
    private static final int FROM_BASE = 128;

    private static final long NO_PATH = 0L;
    private static final long PATH_END = 1L << 60;
    private static final int SLASH_SIGN = 1;
    private static final int SLASH = 47;
    private static final int LETTER_A = 97;
    private static final int LETTER_Z = 122;
    private static final int ONE_LETTER = 63;
    private static final int SOME_LETTERS = 42;
    private static final int EQUALS_SIGN = 61;
    private static final int SEMICOLON = 59;
    private static final int DIGIT_ZERO = 48;
    /** A mark has five digits at most. */
    private static final int MOST_UNIT = 10000;

    private final Tape tape;
    private final Stage stage;
    private final Editions editions;
    private final Row theRow;
    private final Contents contents;
    private final Ties ties;
    private final Joint joint;
    private final Changes changes;
    private final int[] text;
    private final int[] chosen;
    private int conflicts;

    public EditionVault() {
        tape = new Tape();
        stage = new Stage();
        editions = new Editions();
        theRow = new Row();
        contents = new Contents(theRow);
        ties = new Ties();
        joint = new Joint();
        changes = new Changes();
        text = new int[TEXT_SIZE];
        chosen = new int[MOST_FILES];
        conflicts = 0;
    }

    public int feed(int a, int b, int c, int d, int e) {
        if (tape.size + FEED_SIZE > TAPE_SIZE) {
            return NONE;
        }
        tape.append(a);
        tape.append(b);
        tape.append(c);
        tape.append(d);
        tape.append(e);
        return tape.size;
    }

    // ---- the stage ----

    public int write(int p, int n) {
        if (!tape.hasWord(p) || n < 0 || n > MOST_BYTES || !tape.has(p + n)) {
            return NONE;
        }
        int answer = stage.putFile(tape.pathFrom(0, p), tape.bytes, p, n);
        tape.clear();
        return answer;
    }

    public int remove(int p) {
        if (!tape.hasWord(p)) {
            return NONE;
        }
        long path = tape.pathFrom(0, p);
        tape.clear();
        if (path == NO_PATH) {
            return -2;
        }
        int gone = stage.loseWithin(path);
        return gone == 0 ? -3 : gone;
    }

    public int move(int p, int q) {
        return carry(p, q, true);
    }

    public int copy(int p, int q) {
        return carry(p, q, false);
    }

    private int carry(int p, int q, boolean isMove) {
        if (!hasTwoWords(p, q)) {
            return NONE;
        }
        long from = tape.pathFrom(0, p);
        long to = tape.pathFrom(p, q);
        tape.clear();
        if (from == NO_PATH || to == NO_PATH) {
            return -2;
        }
        int carried = stage.filesWithin(from);
        if (carried == 0) {
            return -3;
        }
        // those that move leave their paths, so only those that stay can be in the way
        if (!stage.canRename(from, to, isMove ? from : NO_PATH)) {
            return -4;
        }
        if (isMove) {
            stage.renameWithin(from, to);
            return carried;
        }
        if (stage.files + carried > MOST_FILES) {
            return -5;
        }
        stage.doubleWithin(from, to);
        return carried;
    }

    private boolean hasTwoWords(int p, int q) {
        return tape.hasWord(p) && tape.hasWord(q) && tape.has(p + q);
    }

    // ---- editions come and go ----

    public int commit() {
        if (isStageUnchanged()) {
            return -2;
        }
        if (editions.size >= MOST_EDITIONS || editions.next >= MOST_NUMBERS) {
            return -3;
        }
        contents.remember();
        if (!keepStage()) {
            contents.restore();
            return -4;
        }
        int number = editions.addOf(stage, chosen);
        stage.of = number;
        stage.alsoOf = NOTHING;
        return number;
    }

    private boolean isStageUnchanged() {
        Edition last = editions.numbered(stage.of);
        if (last == null || stage.alsoOf != NOTHING || last.files != stage.files) {
            return false;
        }
        for (int i = 0; i < stage.files; i++) {
            int content = last.contents[i];
            if (last.paths[i] != stage.paths[i] || !contents.isWhole[content]
                    || !contents.hasBytes(content, stage.bytes[i], stage.sizes[i])) {
                return false;
            }
        }
        return true;
    }

    /** False if one finds no number or no room; what was kept till then has to be undone. */
    private boolean keepStage() {
        for (int i = 0; i < stage.files; i++) {
            int content = contents.wholeWith(stage.bytes[i], stage.sizes[i]);
            if (content < 0) {
                content = contents.keepNew(stage.bytes[i], stage.sizes[i]);
            }
            if (content < 0) {
                return false;
            }
            chosen[i] = content;
        }
        return true;
    }

    public int rebuild(int edition) {
        Edition list = editions.numbered(edition);
        if (list == null) {
            return -2;
        }
        if (!contents.areWhole(list.contents, list.files)) {
            return -3;
        }
        stage.fillFrom(list.paths, list.contents, list.files, contents);
        stage.of = edition;
        stage.alsoOf = NOTHING;
        return stage.files;
    }

    public int join(int a, int b) {
        Edition left = editions.numbered(a);
        Edition right = editions.numbered(b);
        if (left == null || right == null) {
            return -2;
        }
        joint.unite(editions.numbered(editions.commonOf(a, b)), left, right);
        if (!contents.areWhole(joint.contents, joint.files)) {
            return -3;
        }
        if (joint.files > MOST_FILES) {
            return -4;
        }
        stage.fillFrom(joint.paths, joint.contents, joint.files, contents);
        stage.of = a;
        stage.alsoOf = b;
        conflicts = joint.conflicts;
        return conflicts;
    }

    public int drop(int edition) {
        Edition gone = editions.numbered(edition);
        if (gone == null) {
            return -2;
        }
        if (gone.isSealed) {
            return -3;
        }
        return dropFound(gone);
    }

    private int dropFound(Edition gone) {
        int number = gone.number;
        int heir = gone.of;
        editions.take(number, heir);
        if (stage.of == number) {
            stage.of = heir;
        }
        if (stage.alsoOf == number) {
            stage.alsoOf = heir;
        }
        ties.tally(editions, contents);
        return contents.loseUntied(ties.editions);
    }

    public int thin(int latest) {
        if (latest < 0 || latest > MOST_EDITIONS) {
            return NONE;
        }
        int old = editions.size - latest;
        int place = 0;
        int gone = 0;
        for (int step = 0; step < old; step++) {
            Edition oldest = editions.placed(place);
            if (oldest == null || oldest.isSealed) {
                place++;
            } else {
                gone += dropFound(oldest);
            }
        }
        return gone;
    }

    public int seal(int edition, boolean is) {
        Edition found = editions.numbered(edition);
        if (found == null) {
            return -2;
        }
        if (found.isSealed == is) {
            return -3;
        }
        found.isSealed = is;
        return 1;
    }

    public int name(int edition, int q) {
        if (q < 0 || q > MOST_SIGNS || !tape.has(q)) {
            return NONE;
        }
        long called = tape.nameFrom(q);
        tape.clear();
        Edition found = editions.numbered(edition);
        if (found == null) {
            return -2;
        }
        if (q > 0 && called == NO_PATH) {
            return -3;
        }
        Edition bearer = editions.bearing(called);
        if (bearer != null && bearer != found) {
            return -4;
        }
        found.called = called;
        return q;
    }

    public int named(int q) {
        if (!tape.hasWord(q)) {
            return NONE;
        }
        Edition bearer = editions.bearing(tape.nameFrom(q));
        return bearer == null ? -2 : bearer.number;
    }

    public int nameByte(int edition, int k) {
        Edition found = editions.numbered(edition);
        if (found == null || k < 0) {
            return NONE;
        }
        return Path.byteOrNothing(found.called, k);
    }

    // ---- the row, spoilt and mended ----

    public int pack() {
        return contents.moveTogether();
    }

    public int spoil(int place, int v) {
        if (!theRow.isPlace(place) || v < 0 || v > 255) {
            return NONE;
        }
        int was = theRow.values[place];
        theRow.values[place] = v;
        contents.readAll();
        return was;
    }

    public int mend(int content, int n) {
        if (n < 0 || n > MOST_BYTES || !tape.has(n)) {
            return NONE;
        }
        int answer = contents.isThere(content) ? contents.mendBy(content, tape.bytes, n) : -2;
        tape.clear();
        return answer;
    }

    public int cure() {
        int cured = 0;
        boolean isMore = true;
        for (int round = 0; isMore && round < MOST_ROUNDS; round++) {
            int now = cureRound();
            cured += now;
            isMore = now > 0;
        }
        return cured;
    }

    private int cureRound() {
        int cured = 0;
        for (int content = 0; content < MOST_CONTENTS; content++) {
            if (contents.isThere(content) && !contents.isWhole[content] && cureOne(content)) {
                cured++;
            }
        }
        return cured;
    }

    private boolean cureOne(int content) {
        for (int i = 0; i < stage.files; i++) {
            if (contents.mendBy(content, stage.bytes[i], stage.sizes[i]) == 1) {
                return true;
            }
        }
        return false;
    }

    public int row(int place) {
        return theRow.isPlace(place) ? theRow.values[place] : NONE;
    }

    public int owner(int place) {
        return theRow.isPlace(place) ? theRow.owners[place] : NONE;
    }

    // ---- what hangs on what ----

    public int risk(int place, int what) {
        if (!theRow.isPlace(place) || what < 0 || what > 1) {
            return NONE;
        }
        int content = theRow.owners[place];
        if (content < 0) {
            return 0;
        }
        ties.tally(editions, contents);
        return what == 0 ? ties.contents[content] : ties.paths[content];
    }

    public int weakest(int what) {
        if (what < 0 || what > 1) {
            return NONE;
        }
        ties.tally(editions, contents);
        int weakest = NOTHING;
        int most = 0;
        for (int place = 0; place < ROW_SIZE; place++) {
            int content = theRow.owners[place];
            if (content >= 0 && ties.paths[content] > most) {
                most = ties.paths[content];
                weakest = place;
            }
        }
        return what == 0 ? weakest : most;
    }

    public int drops(int bytes, int what) {
        if (bytes < 0 || bytes > ROW_SIZE || what < 0 || what > 2) {
            return NONE;
        }
        ties.tally(editions, contents);
        int sealed = editions.sealedSet();
        int best = NOTHING;
        int fewest = MOST_EDITIONS + 1;
        for (int set = 0; set < 1 << editions.size; set++) {
            int few = Integer.bitCount(set);
            if ((set & sealed) == 0 && few < fewest && ties.bytesOnlyIn(set, contents) >= bytes) {
                best = set;
                fewest = few;
            }
        }
        if (best < 0) {
            return -2;
        }
        if (what == 2) {
            return ties.bytesOnlyIn(best, contents);
        }
        return what == 0 ? fewest : best;
    }

    public int thrift() {
        ties.tally(editions, contents);
        return contents.sizeAnew(ties.ownPaths);
    }

    public int pieces(int content, int base) {
        if (!contents.isThere(content) || !contents.isThere(base)) {
            return NONE;
        }
        if (!contents.isWhole[content] || !contents.isWhole[base]) {
            return -2;
        }
        return contents.piecesBy(base, contents.read[content], contents.lengths[content]);
    }

    public int content(int content, int what) {
        if (!contents.isThere(content)) {
            return NONE;
        }
        if (what == 6) {
            ties.tally(editions, contents);
            return ties.ownPaths[content];
        }
        return contents.factOf(content, what);
    }

    // ---- single paths ----

    public int fetch(int edition, int p) {
        if (!tape.hasWord(p)) {
            return NONE;
        }
        long path = tape.pathFrom(0, p);
        tape.clear();
        Edition list = editions.numbered(edition);
        if (list == null) {
            return -2;
        }
        int coming = list.filesWithin(path);
        if (path == NO_PATH || coming == 0) {
            return -3;
        }
        if (!areWholeWithin(list, path)) {
            return -4;
        }
        int staying = stage.files - stage.filesWithin(path);
        if (staying + coming > MOST_FILES || areInTheWay(list, path)) {
            return -5;
        }
        stage.loseWithin(path);
        for (int i = 0; i < list.files; i++) {
            if (Path.isWithin(list.paths[i], path)) {
                int content = list.contents[i];
                stage.append(list.paths[i], contents.read[content], 0, contents.lengths[content]);
            }
        }
        stage.sort();
        return coming;
    }

    private boolean areWholeWithin(Edition list, long path) {
        for (int i = 0; i < list.files; i++) {
            if (Path.isWithin(list.paths[i], path) && !contents.isWhole[list.contents[i]]) {
                return false;
            }
        }
        return true;
    }

    private boolean areInTheWay(Edition list, long path) {
        for (int i = 0; i < list.files; i++) {
            if (Path.isWithin(list.paths[i], path) && stage.meets(list.paths[i], path)) {
                return true;
            }
        }
        return false;
    }

    public int like(int edition, int q, int k) {
        Edition list = editions.numbered(edition);
        if (list == null || !tape.hasWord(q) || k < -1) {
            return NONE;
        }
        if (!tape.isPattern(q)) {
            return -2;
        }
        int found = 0;
        for (int i = 0; i < list.files; i++) {
            if (tape.fits(list.paths[i], q)) {
                if (found == k) {
                    return i;
                }
                found++;
            }
        }
        return k == -1 ? found : -3;
    }

    public int weigh(int edition, int p) {
        Edition list = editions.numbered(edition);
        if (list == null || !tape.hasWord(p)) {
            return NONE;
        }
        long path = tape.pathFrom(0, p);
        if (path == NO_PATH || list.filesWithin(path) == 0) {
            return -2;
        }
        int sum = 0;
        for (int i = 0; i < list.files; i++) {
            if (Path.isWithin(list.paths[i], path)) {
                sum += contents.lengths[list.contents[i]];
            }
        }
        return sum;
    }

    public int since(int p, int k) {
        if (!tape.hasWord(p) || k < 0) {
            return NONE;
        }
        long path = tape.pathFrom(0, p);
        if (path == NO_PATH) {
            return -2;
        }
        int found = 0;
        for (int place = 0; place < editions.size; place++) {
            Edition list = editions.placed(place);
            if (list != null && isNewIn(list, path)) {
                if (found == k) {
                    return list.number;
                }
                found++;
            }
        }
        return -2;
    }

    private boolean isNewIn(Edition list, long path) {
        int content = list.contentAt(path);
        if (content < 0) {
            return false;
        }
        Edition before = editions.numbered(list.of);
        return before == null || before.contentAt(path) != content;
    }

    public int came(int edition, int i) {
        Edition first = editions.numbered(edition);
        if (first == null || !first.hasFile(i)) {
            return NONE;
        }
        long path = first.paths[i];
        int content = first.contents[i];
        for (int step = 0; step < MOST_EDITIONS; step++) {
            Edition before = editions.numbered(first.of);
            if (before == null || before.contentAt(path) != content) {
                return first.number;
            }
            first = before;
        }
        return first.number;
    }

    // ---- what is told ----

    public int count(int what) {
        switch (what) {
            case 0: return stage.files;
            case 1: return stage.of;
            case 2: return stage.alsoOf;
            case 3: return editions.size;
            case 4: return editions.next;
            case 5: return contents.howMany();
            case 6: return contents.keptInAll();
            case 7: return theRow.longestFree();
            case 8: return contents.spoiltOnes();
            case 9: return countTouched();
            case 10: return countBytes();
            case 11: return tape.size;
            case 12: return contents.onesByBase();
            case 13: return contents.greatestDepth();
            case 14: return conflicts;
            default: return NONE;
        }
    }

    private int countTouched() {
        int found = 0;
        for (int place = 0; place < editions.size; place++) {
            Edition list = editions.placed(place);
            for (int i = 0; list != null && i < list.files; i++) {
                if (!contents.isWhole[list.contents[i]]) {
                    found++;
                }
            }
        }
        return found;
    }

    private int countBytes() {
        int sum = 0;
        for (int place = 0; place < editions.size; place++) {
            Edition list = editions.placed(place);
            if (list != null) {
                sum += contents.lengthOfAll(list.contents, list.files);
            }
        }
        return sum;
    }

    public int edition(int i) {
        Edition found = editions.placed(i);
        return found == null ? NONE : found.number;
    }

    public int of(int edition, int what) {
        Edition found = editions.numbered(edition);
        if (found == null) {
            return NONE;
        }
        switch (what) {
            case 0: return found.of;
            case 1: return found.alsoOf;
            case 2: return found.files;
            case 3: return contents.lengthOfAll(found.contents, found.files);
            case 4: return bytesAlone(edition);
            case 5: return Integer.bitCount(editions.ancestorSet(edition));
            case 6: return Contents.markOf(text, found.tellInto(text, contents));
            case 7: return found.isSealed ? 1 : 0;
            case 8: return Path.lengthOf(found.called);
            default: return NONE;
        }
    }

    private int bytesAlone(int edition) {
        ties.tally(editions, contents);
        return ties.bytesOnlyIn(editions.setOf(edition), contents);
    }

    public int file(int edition, int i, int what) {
        if (what < 0 || what > 2) {
            return NONE;
        }
        if (edition == THE_STAGE) {
            return stage.hasFile(i) ? stagedFile(i, what) : NONE;
        }
        Edition list = editions.numbered(edition);
        if (list == null || !list.hasFile(i)) {
            return NONE;
        }
        int content = list.contents[i];
        switch (what) {
            case 0: return Path.lengthOf(list.paths[i]);
            case 1: return contents.lengths[content];
            default: return content;
        }
    }

    private int stagedFile(int i, int what) {
        switch (what) {
            case 0: return Path.lengthOf(stage.paths[i]);
            case 1: return stage.sizes[i];
            default: return contents.wholeWith(stage.bytes[i], stage.sizes[i]);
        }
    }

    public int at(int edition, int i, boolean isBytes, int k) {
        if (k < 0) {
            return NONE;
        }
        if (edition == THE_STAGE) {
            return stage.hasFile(i) ? stagedByte(i, isBytes, k) : NONE;
        }
        Edition list = editions.numbered(edition);
        if (list == null || !list.hasFile(i)) {
            return NONE;
        }
        if (!isBytes) {
            return Path.byteOrNothing(list.paths[i], k);
        }
        int content = list.contents[i];
        if (k >= contents.lengths[content]) {
            return -2;
        }
        return contents.isReadable[content] ? contents.read[content][k] : -3;
    }

    private int stagedByte(int i, boolean isBytes, int k) {
        if (!isBytes) {
            return Path.byteOrNothing(stage.paths[i], k);
        }
        return k < stage.sizes[i] ? stage.bytes[i][k] : -2;
    }

    public int change(int a, int b, int k, int what) {
        Edition from = editions.numbered(a);
        Edition to = editions.numbered(b);
        if (from == null || to == null || k < -1 || what < 0 || what > 3) {
            return NONE;
        }
        changes.compare(from, to);
        if (k == -1) {
            return what == 0 ? changes.size : NONE;
        }
        if (k >= changes.size) {
            return NONE;
        }
        switch (what) {
            case 0: return changes.kinds[k];
            case 1: return changes.fromPlaces[k];
            case 2: return changes.toPlaces[k];
            default: return changes.movedFrom(k, from, to);
        }
    }

    public int common(int a, int b) {
        if (editions.numbered(a) == null || editions.numbered(b) == null) {
            return NONE;
        }
        return editions.commonOf(a, b);
    }

    public int touched(int k, int what) {
        if (k < 0 || what < 0 || what > 2) {
            return NONE;
        }
        int found = 0;
        for (int place = 0; place < editions.size; place++) {
            Edition list = editions.placed(place);
            for (int i = 0; list != null && i < list.files; i++) {
                if (!contents.isWhole[list.contents[i]]) {
                    if (found == k) {
                        return toldOfTouched(list, i, what);
                    }
                    found++;
                }
            }
        }
        return NONE;
    }

    private static int toldOfTouched(Edition list, int i, int what) {
        switch (what) {
            case 0: return list.number;
            case 1: return i;
            default: return list.contents[i];
        }
    }

    public int told(int edition, int i) {
        Edition list = editions.numbered(edition);
        if (list == null || i < -1) {
            return NONE;
        }
        int size = list.tellInto(text, contents);
        if (i == -1) {
            return size;
        }
        return i < size && i < text.length ? text[i] : -4;
    }

    /**
     * Paths and names as one long, five bits a sign from bit 59 down (0 no sign, 1 the slash, then
     * the letters): so paths are in order as their longs are, and need no rows of their own.
     */
    private static final class Path {
        private Path() {
        }

        static int signOf(int value) {
            if (value == SLASH) {
                return SLASH_SIGN;
            }
            return value >= LETTER_A && value <= LETTER_Z ? value - LETTER_A + SLASH_SIGN + 1 : 0;
        }

        static int signAt(long path, int k) {
            return k < 0 || k >= MOST_SIGNS ? 0 : (int) (path >>> (55 - 5 * k)) & 31;
        }

        static long withSign(long path, int k, int sign) {
            return k < 0 || k >= MOST_SIGNS ? path : path | ((long) sign << (55 - 5 * k));
        }

        static int lengthOf(long path) {
            int length = 0;
            long rest = path;
            while (length < MOST_SIGNS && rest != 0) {
                rest = (rest << 5) & (PATH_END - 1);
                length++;
            }
            return length;
        }

        static int byteOrNothing(long path, int k) {
            int sign = signAt(path, k);
            if (sign == 0) {
                return NOTHING;
            }
            return sign == SLASH_SIGN ? SLASH : sign - SLASH_SIGN - 1 + LETTER_A;
        }

        static boolean isAbove(long path, long other) {
            int length = lengthOf(path);
            if (length == 0 || signAt(other, length) != SLASH_SIGN) {
                return false;
            }
            int rest = 60 - 5 * length;
            return path >>> rest == other >>> rest;
        }

        static boolean isWithin(long path, long top) {
            return path == top || isAbove(top, path);
        }

        /** Its place among the first n of these, or NOTHING. */
        static int placeIn(long[] paths, int n, long path) {
            for (int i = 0; i < n && i < paths.length; i++) {
                if (paths[i] == path) {
                    return i;
                }
            }
            return NOTHING;
        }

        /** How many of the first n are this path or below it. */
        static int howManyWithin(long[] paths, int n, long top) {
            int found = 0;
            for (int i = 0; i < n && i < paths.length; i++) {
                if (isWithin(paths[i], top)) {
                    found++;
                }
            }
            return found;
        }

        /** The path with another beginning; NO_PATH if it would be too long. */
        static long renamed(long path, long from, long to) {
            int cut = lengthOf(from);
            int set = lengthOf(to);
            if (lengthOf(path) - cut + set > MOST_SIGNS) {
                return NO_PATH;
            }
            long rest = (path << (5 * cut)) & (PATH_END - 1);
            return to | (rest >>> (5 * set));
        }
    }

    /** The bytes that the next calls take. */
    private static final class Tape {
        final int[] bytes = new int[TAPE_SIZE];
        int size;

        void append(int four) {
            for (int shift = 24; shift >= 0 && size < TAPE_SIZE; shift -= 8) {
                bytes[size] = (four >>> shift) & 255;
                size++;
            }
        }

        void clear() {
            size = 0;
        }

        boolean has(int n) {
            return n <= size;
        }

        boolean hasWord(int n) {
            return n >= 1 && n <= MOST_SIGNS && has(n);
        }

        /** NO_PATH if these bytes are none; the caller has looked whether the tape has them. */
        long pathFrom(int start, int n) {
            long path = NO_PATH;
            int before = SLASH_SIGN;
            for (int k = 0; k < n && start + k < size; k++) {
                int sign = Path.signOf(bytes[start + k]);
                if (sign == 0 || (sign == SLASH_SIGN && before == SLASH_SIGN)) {
                    return NO_PATH;
                }
                path = Path.withSign(path, k, sign);
                before = sign;
            }
            return before == SLASH_SIGN ? NO_PATH : path;
        }

        /** NO_PATH if these bytes are no name. */
        long nameFrom(int n) {
            for (int k = 0; k < n && k < size; k++) {
                if (bytes[k] == SLASH) {
                    return NO_PATH;
                }
            }
            return pathFrom(0, n);
        }

        boolean isPattern(int n) {
            for (int k = 0; k < n && k < size; k++) {
                int value = bytes[k];
                if (Path.signOf(value) == 0 && value != ONE_LETTER && value != SOME_LETTERS) {
                    return false;
                }
            }
            return true;
        }

        /** Follows all ways at once: bit i stands for "the pattern so far fits the first i signs". */
        boolean fits(long path, int n) {
            int ways = 1;
            for (int k = 0; k < n && k < size; k++) {
                ways = waysBehind(ways, bytes[k], path);
            }
            return ((ways >>> Path.lengthOf(path)) & 1) != 0;
        }

        private static int waysBehind(int ways, int value, long path) {
            int next = value == SOME_LETTERS ? ways : 0;
            for (int i = 0; i < MOST_SIGNS; i++) {
                int sign = Path.signAt(path, i);
                boolean isLetter = sign > SLASH_SIGN;
                if (value == SOME_LETTERS && isLetter && ((next >>> i) & 1) != 0) {
                    next |= 2 << i;
                }
                boolean isLike = value == ONE_LETTER ? isLetter : sign != 0 && sign == Path.signOf(value);
                if (isLike && ((ways >>> i) & 1) != 0) {
                    next |= 2 << i;
                }
            }
            return next;
        }
    }

    /** The files that are worked on, in order of their paths. */
    private static final class Stage {
        final long[] paths = new long[MOST_FILES];
        final int[] sizes = new int[MOST_FILES];
        final int[][] bytes = new int[MOST_FILES][MOST_BYTES];
        int files;
        int of = NOTHING;
        int alsoOf = NOTHING;

        boolean hasFile(int i) {
            return i >= 0 && i < files;
        }

        int placeOf(long path) {
            return Path.placeIn(paths, files, path);
        }

        int filesWithin(long path) {
            return Path.howManyWithin(paths, files, path);
        }

        /** Whether a file that is not within `aside` has this path, or one above or below it. */
        boolean meets(long path, long aside) {
            for (int i = 0; i < files; i++) {
                boolean isAside = Path.isWithin(paths[i], aside);
                if (!isAside && (Path.isWithin(paths[i], path) || Path.isAbove(paths[i], path))) {
                    return true;
                }
            }
            return false;
        }

        int putFile(long path, int[] from, int start, int n) {
            if (path == NO_PATH) {
                return -2;
            }
            int place = placeOf(path);
            if (place >= 0) {
                setBytes(place, from, start, n);
                return files;
            }
            if (meets(path, NO_PATH)) {
                return -3;
            }
            if (files >= MOST_FILES) {
                return -4;
            }
            append(path, from, start, n);
            sort();
            return files;
        }

        /** Behind all others: sort() has to follow. */
        void append(long path, int[] from, int start, int n) {
            if (files < MOST_FILES) {
                paths[files] = path;
                setBytes(files, from, start, n);
                files++;
            }
        }

        private void setBytes(int place, int[] from, int start, int n) {
            int[] to = bytes[place];
            for (int k = 0; k < n && k < to.length && start + k < from.length; k++) {
                to[k] = from[start + k];
            }
            sizes[place] = n;
        }

        void sort() {
            for (int i = 1; i < files; i++) {
                for (int k = i; k > 0 && paths[k] < paths[k - 1]; k--) {
                    swap(k, k - 1);
                }
            }
        }

        private void swap(int i, int k) {
            long path = paths[i];
            int size = sizes[i];
            int[] held = bytes[i];
            paths[i] = paths[k];
            sizes[i] = sizes[k];
            bytes[i] = bytes[k];
            paths[k] = path;
            sizes[k] = size;
            bytes[k] = held;
        }

        int loseWithin(long path) {
            int staying = 0;
            for (int i = 0; i < files; i++) {
                if (!Path.isWithin(paths[i], path)) {
                    swap(staying, i);
                    staying++;
                }
            }
            int gone = files - staying;
            files = staying;
            return gone;
        }

        /** Files within one path keep their order among each other when renamed, so only others matter. */
        boolean canRename(long from, long to, long aside) {
            for (int i = 0; i < files; i++) {
                if (Path.isWithin(paths[i], from)) {
                    long path = Path.renamed(paths[i], from, to);
                    if (path == NO_PATH || meets(path, aside)) {
                        return false;
                    }
                }
            }
            return true;
        }

        void renameWithin(long from, long to) {
            for (int i = 0; i < files; i++) {
                if (Path.isWithin(paths[i], from)) {
                    paths[i] = Path.renamed(paths[i], from, to);
                }
            }
            sort();
        }

        void doubleWithin(long from, long to) {
            int were = files;
            for (int i = 0; i < were; i++) {
                if (Path.isWithin(paths[i], from)) {
                    append(Path.renamed(paths[i], from, to), bytes[i], 0, sizes[i]);
                }
            }
            sort();
        }

        void fillFrom(long[] from, int[] list, int n, Contents contents) {
            files = 0;
            for (int i = 0; i < n; i++) {
                append(from[i], contents.read[list[i]], 0, contents.lengths[list[i]]);
            }
        }
    }

    /** One edition: its list, what it is of, its name and seal. */
    private static final class Edition {
        final long[] paths = new long[MOST_FILES];
        final int[] contents = new int[MOST_FILES];
        int files;
        int number;
        int of = NOTHING;
        int alsoOf = NOTHING;
        boolean isSealed;
        long called = NO_PATH;

        boolean hasFile(int i) {
            return i >= 0 && i < files;
        }

        int placeOf(long path) {
            return Path.placeIn(paths, files, path);
        }

        int contentAt(long path) {
            int place = placeOf(path);
            return place < 0 ? NOTHING : contents[place];
        }

        int filesWithin(long path) {
            return Path.howManyWithin(paths, files, path);
        }

        long pathBehind(long path) {
            for (int i = 0; i < files; i++) {
                if (paths[i] > path) {
                    return paths[i];
                }
            }
            return PATH_END;
        }

        /** Its list's text; how many bytes that is. */
        int tellInto(int[] text, Contents store) {
            int size = 0;
            for (int i = 0; i < files; i++) {
                int length = Path.lengthOf(paths[i]);
                for (int k = 0; k < length; k++) {
                    size = append(text, size, Path.byteOrNothing(paths[i], k));
                }
                size = append(text, size, EQUALS_SIGN);
                size = appendDigits(text, size, store.marks[contents[i]]);
                size = append(text, size, SEMICOLON);
            }
            return size;
        }

        private static int append(int[] text, int size, int value) {
            if (size >= text.length) {
                return size;
            }
            text[size] = value;
            return size + 1;
        }

        private static int appendDigits(int[] text, int size, int number) {
            int end = size;
            for (int unit = MOST_UNIT; unit > 0; unit /= 10) {
                if (number >= unit || unit == 1) {
                    end = append(text, end, DIGIT_ZERO + number / unit % 10);
                }
            }
            return end;
        }
    }

    /** All editions, rising; those from `size` on are free ones for later. */
    private static final class Editions {
        final Edition[] list = new Edition[MOST_EDITIONS];
        int size;
        int next;

        Editions() {
            for (int i = 0; i < MOST_EDITIONS; i++) {
                list[i] = new Edition();
            }
        }

        Edition placed(int i) {
            return i >= 0 && i < size ? list[i] : null;
        }

        private int placeOf(int number) {
            for (int i = 0; i < size; i++) {
                if (list[i].number == number) {
                    return i;
                }
            }
            return NONE;
        }

        Edition numbered(int number) {
            return placed(placeOf(number));
        }

        Edition bearing(long called) {
            for (int i = 0; i < size && called != NO_PATH; i++) {
                if (list[i].called == called) {
                    return list[i];
                }
            }
            return null;
        }

        int addOf(Stage stage, int[] chosen) {
            if (size >= MOST_EDITIONS) {
                return NONE;
            }
            Edition added = list[size];
            added.files = stage.files;
            for (int i = 0; i < stage.files; i++) {
                added.paths[i] = stage.paths[i];
                added.contents[i] = chosen[i];
            }
            added.number = next;
            added.of = stage.of;
            added.alsoOf = stage.alsoOf;
            added.isSealed = false;
            added.called = NO_PATH;
            size++;
            next++;
            return added.number;
        }

        void take(int number, int heir) {
            int place = placeOf(number);
            if (place < 0) {
                return;
            }
            Edition gone = list[place];
            for (int i = place; i + 1 < size; i++) {
                list[i] = list[i + 1];
            }
            size--;
            list[size] = gone;
            for (int i = 0; i < size; i++) {
                if (list[i].of == number) {
                    list[i].of = heir;
                }
                if (list[i].alsoOf == number) {
                    list[i].alsoOf = heir;
                }
            }
        }

        /** As a set of one: bits are the places of editions. */
        int setOf(int number) {
            int place = placeOf(number);
            return place < 0 ? 0 : 1 << place;
        }

        /** What an edition is of came ahead of it, so one way down finds all. */
        int ancestorSet(int number) {
            int set = setOf(number);
            for (int i = size - 1; i >= 0; i--) {
                if (((set >>> i) & 1) != 0) {
                    set |= setOf(list[i].of) | setOf(list[i].alsoOf);
                }
            }
            return set;
        }

        int commonOf(int a, int b) {
            int both = ancestorSet(a) & ancestorSet(b);
            for (int i = size - 1; i >= 0; i--) {
                if (((both >>> i) & 1) != 0) {
                    return list[i].number;
                }
            }
            return NOTHING;
        }

        int sealedSet() {
            int set = 0;
            for (int i = 0; i < size; i++) {
                if (list[i].isSealed) {
                    set |= 1 << i;
                }
            }
            return set;
        }
    }

    /** The bytes in which contents are kept. */
    private static final class Row {
        final int[] values = new int[ROW_SIZE];
        final int[] owners = new int[ROW_SIZE];
        private final int[] remembered = new int[ROW_SIZE];

        Row() {
            for (int place = 0; place < ROW_SIZE; place++) {
                owners[place] = NOTHING;
            }
        }

        boolean isPlace(int place) {
            return place >= 0 && place < ROW_SIZE;
        }

        void remember() {
            for (int place = 0; place < ROW_SIZE; place++) {
                remembered[place] = values[place];
            }
        }

        void restore() {
            for (int place = 0; place < ROW_SIZE; place++) {
                values[place] = remembered[place];
            }
        }

        /** NONE if there is no such room. */
        int roomFor(int n) {
            int free = 0;
            for (int place = 0; place < ROW_SIZE && free < n; place++) {
                free = owners[place] < 0 ? free + 1 : 0;
                if (free == n) {
                    return place - n + 1;
                }
            }
            return n == 0 ? 0 : NONE;
        }

        int longestFree() {
            int longest = 0;
            int free = 0;
            for (int place = 0; place < ROW_SIZE; place++) {
                free = owners[place] < 0 ? free + 1 : 0;
                longest = Math.max(longest, free);
            }
            return longest;
        }

        void put(int start, int[] from, int n) {
            for (int k = 0; k < n && k < from.length && isPlace(start + k); k++) {
                values[start + k] = from[k];
            }
        }

        void own(int start, int n, int owner) {
            for (int k = 0; k < n && isPlace(start + k); k++) {
                owners[start + k] = owner;
            }
        }

        void clearFree() {
            for (int place = 0; place < ROW_SIZE; place++) {
                if (owners[place] < 0) {
                    values[place] = 0;
                }
            }
        }
    }

    /** Bytes told by those of a base. */
    private static final class Pieces {
        final int[] bytes = new int[2 * MOST_BYTES];
        int size;
        private int runPlace;
        private int runLength;

        int make(int[] from, int n, int[] base, int baseLength) {
            size = 0;
            int ownRun = NONE;
            int k = 0;
            while (k < n) {
                findRun(from, k, n, base, baseLength);
                if (runLength >= LEAST_RUN) {
                    append(FROM_BASE + runPlace);
                    append(runLength);
                    ownRun = NONE;
                    k += runLength;
                } else {
                    if (ownRun < 0) {
                        ownRun = size;
                        append(0);
                    }
                    append(from[k]);
                    bytes[ownRun]++;
                    k++;
                }
            }
            return size;
        }

        private void append(int value) {
            if (size < bytes.length) {
                bytes[size] = value;
                size++;
            }
        }

        private void findRun(int[] from, int start, int n, int[] base, int baseLength) {
            runPlace = 0;
            runLength = 0;
            for (int place = 0; place + runLength < baseLength && start + runLength < n; place++) {
                int length = 0;
                while (start + length < n && place + length < baseLength
                        && from[start + length] == base[place + length]) {
                    length++;
                }
                if (length > runLength) {
                    runPlace = place;
                    runLength = length;
                }
            }
        }
    }

    /**
     * All contents. What is read of each is held beside it and read anew whenever bytes of the row
     * change, since most calls ask for it.
     */
    private static final class Contents {
        final int[] lengths = new int[MOST_CONTENTS];
        final int[] marks = new int[MOST_CONTENTS];
        final int[] places = new int[MOST_CONTENTS];
        final int[] kept = new int[MOST_CONTENTS];
        final int[] bases = new int[MOST_CONTENTS];
        /** NONE where there is no content with that number. */
        final int[] depths = new int[MOST_CONTENTS];
        final int[][] read = new int[MOST_CONTENTS][MOST_BYTES];
        final boolean[] isReadable = new boolean[MOST_CONTENTS];
        final boolean[] isWhole = new boolean[MOST_CONTENTS];
        private final Row row;
        private final Pieces pieces = new Pieces();
        private final int[] depthsAnew = new int[MOST_CONTENTS];
        private final boolean[] wasThere = new boolean[MOST_CONTENTS];

        Contents(Row row) {
            this.row = row;
            for (int content = 0; content < MOST_CONTENTS; content++) {
                depths[content] = NONE;
            }
        }

        static int markOf(int[] bytes, int n) {
            int mark = MARK_START;
            for (int k = 0; k < n && k < bytes.length; k++) {
                mark = (31 * mark + bytes[k] + 1) % MARK_MODULUS;
            }
            return mark;
        }

        boolean isThere(int content) {
            return content >= 0 && content < MOST_CONTENTS && depths[content] >= 0;
        }

        boolean areWhole(int[] list, int n) {
            for (int i = 0; i < n; i++) {
                if (!isWhole[list[i]]) {
                    return false;
                }
            }
            return true;
        }

        int lengthOfAll(int[] list, int n) {
            int sum = 0;
            for (int i = 0; i < n; i++) {
                sum += lengths[list[i]];
            }
            return sum;
        }

        boolean hasBytes(int content, int[] bytes, int n) {
            if (lengths[content] != n) {
                return false;
            }
            for (int k = 0; k < n; k++) {
                if (read[content][k] != bytes[k]) {
                    return false;
                }
            }
            return true;
        }

        /** The least that is whole and has these bytes, or NOTHING. */
        int wholeWith(int[] bytes, int n) {
            for (int content = 0; content < MOST_CONTENTS; content++) {
                if (isThere(content) && isWhole[content] && hasBytes(content, bytes, n)) {
                    return content;
                }
            }
            return NOTHING;
        }

        // -- reading --

        /** Bases lie less deep than what is by them, so they are read first. */
        void readAll() {
            for (int depth = 0; depth <= MOST_DEPTH; depth++) {
                for (int content = 0; content < MOST_CONTENTS; content++) {
                    if (depths[content] == depth) {
                        readOne(content);
                    }
                }
            }
        }

        private void readOne(int content) {
            boolean isRead = bases[content] < 0 ? readPlain(content) : readPieces(content);
            isReadable[content] = isRead;
            isWhole[content] = isRead && markOf(read[content], lengths[content]) == marks[content];
        }

        private boolean readPlain(int content) {
            for (int k = 0; k < lengths[content]; k++) {
                read[content][k] = row.values[places[content] + k];
            }
            return true;
        }

        private boolean readPieces(int content) {
            int base = bases[content];
            if (!isReadable[base]) {
                return false;
            }
            int place = places[content];
            int end = place + kept[content];
            int got = 0;
            while (place < end) {
                int first = row.values[place];
                boolean isOwn = first < FROM_BASE;
                if (!isOwn && place + 1 >= end) {
                    return false;
                }
                int n = isOwn ? first : row.values[place + 1];
                int from = isOwn ? place + 1 : first - FROM_BASE;
                int limit = isOwn ? end : lengths[base];
                if (n < 1 || from + n > limit || got + n > lengths[content]) {
                    return false;
                }
                int[] source = isOwn ? row.values : read[base];
                for (int k = 0; k < n; k++) {
                    read[content][got + k] = source[from + k];
                }
                got += n;
                place += isOwn ? 1 + n : 2;
            }
            return got == lengths[content];
        }

        // -- keeping --

        int piecesBy(int base, int[] bytes, int n) {
            return pieces.make(bytes, n, read[base], lengths[base]);
        }

        /** The base by which pieces are shortest, with these in `pieces`; NOTHING: plain. */
        private int bestBase(int[] bytes, int n, int[] depthOf) {
            int best = NOTHING;
            int least = n;
            for (int base = 0; base < MOST_CONTENTS; base++) {
                boolean mayBe = depthOf[base] >= 0 && depthOf[base] < MOST_DEPTH && isWhole[base];
                if (mayBe && piecesBy(base, bytes, n) < least) {
                    best = base;
                    least = pieces.size;
                }
            }
            if (best >= 0) {
                piecesBy(best, bytes, n);
            }
            return best;
        }

        /** Its number, or NONE: there are too many, or there is no room. */
        int keepNew(int[] bytes, int n) {
            int content = leastFree();
            if (content < 0) {
                return NONE;
            }
            int base = bestBase(bytes, n, depths);
            int size = base < 0 ? n : pieces.size;
            int place = row.roomFor(size);
            if (place < 0) {
                return NONE;
            }
            row.put(place, base < 0 ? bytes : pieces.bytes, size);
            row.own(place, size, content);
            lengths[content] = n;
            marks[content] = markOf(bytes, n);
            places[content] = place;
            kept[content] = size;
            bases[content] = base;
            depths[content] = base < 0 ? 0 : depths[base] + 1;
            readOne(content);
            return content;
        }

        private int leastFree() {
            for (int content = 0; content < MOST_CONTENTS; content++) {
                if (depths[content] < 0) {
                    return content;
                }
            }
            return NONE;
        }

        /** A commit that fails halfway has to leave all as it was, free bytes too. */
        void remember() {
            row.remember();
            for (int content = 0; content < MOST_CONTENTS; content++) {
                wasThere[content] = isThere(content);
            }
        }

        void restore() {
            row.restore();
            for (int content = 0; content < MOST_CONTENTS; content++) {
                if (isThere(content) && !wasThere[content]) {
                    lose(content);
                }
            }
        }

        private void lose(int content) {
            row.own(places[content], kept[content], NOTHING);
            depths[content] = NONE;
        }

        /** Those go on which no edition hangs, be it by its list or by what is by them. */
        int loseUntied(int[] editionsOn) {
            int gone = 0;
            for (int content = 0; content < MOST_CONTENTS; content++) {
                if (isThere(content) && editionsOn[content] == 0) {
                    lose(content);
                    gone++;
                }
            }
            return gone;
        }

        int mendBy(int content, int[] bytes, int n) {
            if (n != lengths[content] || markOf(bytes, n) != marks[content]) {
                return -3;
            }
            int base = bases[content];
            if (base < 0) {
                row.put(places[content], bytes, n);
            } else {
                if (!isWhole[base] || piecesBy(base, bytes, n) != kept[content]) {
                    return -4;
                }
                row.put(places[content], pieces.bytes, pieces.size);
            }
            readAll();
            return 1;
        }

        /** From the left on, so that no byte is written over before it has moved. */
        int moveTogether() {
            int moved = 0;
            int end = 0;
            for (int place = 0; place < ROW_SIZE; place++) {
                int content = row.owners[place];
                if (content >= 0 && places[content] == place) {
                    if (place != end) {
                        moveTo(content, end);
                        moved += kept[content];
                    }
                    end += kept[content];
                }
            }
            row.clearFree();
            return moved;
        }

        private void moveTo(int content, int to) {
            int from = places[content];
            row.own(from, kept[content], NOTHING);
            row.own(to, kept[content], content);
            for (int k = 0; k < kept[content]; k++) {
                row.values[to + k] = row.values[from + k];
            }
            places[content] = to;
        }

        int sizeAnew(int[] pathsOf) {
            for (int content = 0; content < MOST_CONTENTS; content++) {
                depthsAnew[content] = NONE;
            }
            int sum = 0;
            for (int content = 0; content < MOST_CONTENTS; content++) {
                if (isThere(content) && pathsOf[content] > 0) {
                    if (!isWhole[content]) {
                        return -2;
                    }
                    int base = bestBase(read[content], lengths[content], depthsAnew);
                    sum += base < 0 ? lengths[content] : pieces.size;
                    if (sum > ROW_SIZE) {
                        return -3;
                    }
                    depthsAnew[content] = base < 0 ? 0 : depthsAnew[base] + 1;
                }
            }
            return sum;
        }

        // -- telling --

        int factOf(int content, int what) {
            switch (what) {
                case 0: return lengths[content];
                case 1: return marks[content];
                case 2: return places[content];
                case 3: return kept[content];
                case 4: return bases[content];
                case 5: return depths[content];
                case 7: return onesBy(content);
                case 8: return isReadable[content] ? 1 : 0;
                case 9: return isWhole[content] ? 1 : 0;
                default: return NONE;
            }
        }

        private int onesBy(int base) {
            int found = 0;
            for (int content = 0; content < MOST_CONTENTS; content++) {
                if (isThere(content) && bases[content] == base) {
                    found++;
                }
            }
            return found;
        }

        int onesByBase() {
            int found = 0;
            for (int content = 0; content < MOST_CONTENTS; content++) {
                if (isThere(content) && bases[content] >= 0) {
                    found++;
                }
            }
            return found;
        }

        int howMany() {
            int found = 0;
            for (int content = 0; content < MOST_CONTENTS; content++) {
                if (isThere(content)) {
                    found++;
                }
            }
            return found;
        }

        int spoiltOnes() {
            int found = 0;
            for (int content = 0; content < MOST_CONTENTS; content++) {
                if (isThere(content) && !isWhole[content]) {
                    found++;
                }
            }
            return found;
        }

        int keptInAll() {
            int sum = 0;
            for (int content = 0; content < MOST_CONTENTS; content++) {
                if (isThere(content)) {
                    sum += kept[content];
                }
            }
            return sum;
        }

        int greatestDepth() {
            int greatest = 0;
            for (int content = 0; content < MOST_CONTENTS; content++) {
                greatest = Math.max(greatest, depths[content]);
            }
            return greatest;
        }
    }

    /** What hangs on each content: by itself, or by what is by it as its base. */
    private static final class Ties {
        /** Paths whose content it is itself. */
        final int[] ownPaths = new int[MOST_CONTENTS];
        final int[] paths = new int[MOST_CONTENTS];
        final int[] contents = new int[MOST_CONTENTS];
        /** Bits by the places of editions. */
        final int[] editions = new int[MOST_CONTENTS];

        void tally(Editions all, Contents store) {
            for (int content = 0; content < MOST_CONTENTS; content++) {
                ownPaths[content] = 0;
                editions[content] = 0;
            }
            for (int place = 0; place < all.size; place++) {
                Edition list = all.placed(place);
                for (int i = 0; list != null && i < list.files; i++) {
                    ownPaths[list.contents[i]]++;
                    editions[list.contents[i]] |= 1 << place;
                }
            }
            for (int content = 0; content < MOST_CONTENTS; content++) {
                paths[content] = ownPaths[content];
                contents[content] = 1;
            }
            handDown(store);
        }

        /** The deepest first, so that each hands on all that it was given. */
        private void handDown(Contents store) {
            for (int depth = MOST_DEPTH; depth > 0; depth--) {
                for (int content = 0; content < MOST_CONTENTS; content++) {
                    if (store.depths[content] == depth) {
                        int base = store.bases[content];
                        paths[base] += paths[content];
                        contents[base] += contents[content];
                        editions[base] |= editions[content];
                    }
                }
            }
        }

        /** Kept bytes of contents that would go with these editions. */
        int bytesOnlyIn(int set, Contents store) {
            int sum = 0;
            for (int content = 0; content < MOST_CONTENTS; content++) {
                if (store.isThere(content) && (editions[content] & ~set) == 0) {
                    sum += store.kept[content];
                }
            }
            return sum;
        }
    }

    /** What comes of joining two editions. */
    private static final class Joint {
        final long[] paths = new long[3 * MOST_FILES];
        final int[] contents = new int[3 * MOST_FILES];
        int files;
        int conflicts;
        private final Edition nothing = new Edition();

        void unite(Edition commonOrNull, Edition a, Edition b) {
            Edition origin = commonOrNull == null ? nothing : commonOrNull;
            files = 0;
            conflicts = 0;
            long path = nextPath(NO_PATH, origin, a, b);
            for (int step = 0; step < paths.length && path < PATH_END; step++) {
                settle(path, origin.contentAt(path), a.contentAt(path), b.contentAt(path));
                path = nextPath(path, origin, a, b);
            }
        }

        private static long nextPath(long path, Edition origin, Edition a, Edition b) {
            long ofSides = Math.min(a.pathBehind(path), b.pathBehind(path));
            return Math.min(ofSides, origin.pathBehind(path));
        }

        private void settle(long path, int old, int ours, int theirs) {
            boolean isTheirs = ours == old && theirs != old;
            boolean isConflict = ours != theirs && ours != old && theirs != old;
            int content = isTheirs || (isConflict && ours < 0) ? theirs : ours;
            boolean isLeftOut = content >= 0 && isTaken(path);
            if (content >= 0 && !isLeftOut) {
                paths[files] = path;
                contents[files] = content;
                files++;
            }
            if (isConflict || isLeftOut) {
                conflicts++;
            }
        }

        private boolean isTaken(long path) {
            for (int i = 0; i < files; i++) {
                if (Path.isAbove(paths[i], path) || Path.isAbove(path, paths[i])) {
                    return true;
                }
            }
            return false;
        }
    }

    /** What differs between two editions, by paths in order. */
    private static final class Changes {
        static final int COME = 0;
        static final int GONE = 1;
        static final int OTHER = 2;
        final int[] kinds = new int[2 * MOST_FILES];
        final int[] fromPlaces = new int[2 * MOST_FILES];
        final int[] toPlaces = new int[2 * MOST_FILES];
        int size;

        void compare(Edition from, Edition to) {
            size = 0;
            long path = nextPath(NO_PATH, from, to);
            for (int step = 0; step < kinds.length && path < PATH_END; step++) {
                note(path, from, to);
                path = nextPath(path, from, to);
            }
        }

        private static long nextPath(long path, Edition from, Edition to) {
            return Math.min(from.pathBehind(path), to.pathBehind(path));
        }

        private void note(long path, Edition from, Edition to) {
            int before = from.contentAt(path);
            int after = to.contentAt(path);
            if (before == after) {
                return;
            }
            if (before < 0) {
                kinds[size] = COME;
            } else {
                kinds[size] = after < 0 ? GONE : OTHER;
            }
            fromPlaces[size] = from.placeOf(path);
            toPlaces[size] = to.placeOf(path);
            size++;
        }

        int movedFrom(int k, Edition from, Edition to) {
            if (kinds[k] != COME) {
                return NOTHING;
            }
            int content = to.contents[toPlaces[k]];
            for (int i = 0; i < from.files; i++) {
                if (from.contents[i] == content && to.placeOf(from.paths[i]) < 0) {
                    return i;
                }
            }
            return NOTHING;
        }
    }
}
