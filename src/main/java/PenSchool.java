import java.util.Arrays;

/**
 * A school of pen shorthand. The words in capitals are those of the document, ../shared/DOC.md.
 *
 * Every row is made in a constructor and used again, since all calls of a run share one room.
 */
public final class PenSchool {
    public static final int NONE = -1;
    public static final int RANGE = -2;
    public static final int FULL = -3;
    public static final int STATE = -4;

    /** What a look answers where NONE could be mistaken for something that is there. */
    private static final int ABSENT = -9;

    private final Tape tape;
    private final Tongue tongue;
    private final Briefs briefs;
    private final Passage passage;
    private final Dictation dictation;
    private final Reading reading;
    private final Course course;
    private final Marks marks;
    // A text is read into the draft, which takes the other's place only if it has no FAULT.
    private Script script;
    private Script scriptDraft;
    private Policy policy;
    private Policy policyDraft;

    public PenSchool() {
        tape = new Tape();
        script = new Script();
        scriptDraft = new Script();
        policy = new Policy();
        policyDraft = new Policy();
        tongue = new Tongue(script);
        briefs = new Briefs();
        passage = new Passage();
        dictation = new Dictation();
        reading = new Reading();
        course = new Course();
        marks = new Marks();
    }

    public int feed(int a, int b, int c, int d, int e) {
        if (tape.size > Tape.MOST - 20) {
            return FULL;
        }
        tape.append(a);
        tape.append(b);
        tape.append(c);
        tape.append(d);
        tape.append(e);
        return tape.size;
    }

    public int end(int n) {
        if (n < 0 || n > tape.size) {
            return NONE;
        }
        tape.size = n;
        return n;
    }

    // ---- texts

    public int system() {
        int clauses = scriptDraft.learn(tape);
        tape.size = 0;
        if (clauses < 0) {
            return NONE;
        }
        Script old = script;
        script = scriptDraft;
        scriptDraft = old;
        briefs.forget();
        dictation.forget();
        reading.held = false;
        course.size = 0;
        tongue.redraw(script);
        return clauses;
    }

    public int policy() {
        int lines = policyDraft.learn(tape);
        tape.size = 0;
        if (lines < 0) {
            return NONE;
        }
        Policy old = policy;
        policy = policyDraft;
        policyDraft = old;
        return lines;
    }

    public int fault(int what) {
        if (what == 0) {
            return tape.faultKind;
        }
        return what == 1 ? tape.faultPlace : NONE;
    }

    public int rule(int what) {
        if (what >= 0 && what <= Script.SIGNS) {
            return script.rules[what];
        }
        if (what >= 10 && what - 10 < script.rules[Script.VOWELS]) {
            return script.vowels[what - 10];
        }
        return ABSENT;
    }

    public int sign(int s, int what) {
        if (s < 0 || s >= script.rules[Script.SIGNS]) {
            return ABSENT;
        }
        switch (what) {
            case 0:
                return script.ways[s];
            case 1:
                return script.lengths[s];
            case 2:
                return script.sizes[s];
            default:
                return what >= 10 && what - 10 < script.sizes[s]
                        ? script.sounds[s * Script.LONGEST + what - 10] : ABSENT;
        }
    }

    // ---- terms

    public int term(int count) {
        boolean isRow = tape.isOneRow(Tongue.LONGEST);
        tape.size = 0;
        if (count < 1 || count > 9999) {
            return RANGE;
        }
        if (!isRow) {
            return NONE;
        }
        // The ROW still lies there: emptying the tape only sets its size.
        if (tongue.has(tape)) {
            return STATE;
        }
        return tongue.size >= Tongue.MOST ? FULL : tongue.add(tape, count);
    }

    public int about(int t, int what) {
        if (!tongue.knows(t)) {
            return ABSENT;
        }
        switch (what) {
            case 0:
                return tongue.counts[t];
            case 1:
                return tongue.sizes[t];
            case 2:
                return tongue.outlines[t].place;
            case 3:
                return tongue.skeletonSizes[t];
            default:
                return what < 10 ? aboutRows(t, what) : aboutElements(t, what);
        }
    }

    private int aboutRows(int t, int what) {
        if (what < 4 || what > 8) {
            return ABSENT;
        }
        if (!tongue.hasForm(t)) {
            return NONE;
        }
        Row outline = tongue.outlines[t];
        Row form = tongue.formOf(t);
        switch (what) {
            case 4:
                return outline.size;
            case 5:
                return outline.cost;
            case 6:
                return form.size;
            case 7:
                return form.cost;
            default:
                return form.lifts;
        }
    }

    private int aboutElements(int t, int what) {
        if (what < 30) {
            return tongue.outlines[t].signAt(what - 10);
        }
        if (what < 50) {
            return tongue.formOf(t).signAt(what - 30);
        }
        int i = what - 50;
        return i < tongue.skeletonSizes[t] ? tongue.skeletons[t * Tongue.LONGEST + i] : ABSENT;
    }

    public int alike(int t) {
        if (!tongue.knows(t)) {
            return RANGE;
        }
        return tongue.hasForm(t) ? tongue.lookalikes(t) : NONE;
    }

    // ---- briefs

    public int candidate(int t) {
        int size = tape.size;
        boolean isRow = tape.isRowOfSigns(script.rules[Script.SIGNS]) && size <= Briefs.LONGEST;
        tape.size = 0;
        if (!tongue.knows(t)) {
            return RANGE;
        }
        if (!isRow) {
            return NONE;
        }
        return briefs.size >= Briefs.MOST ? FULL : briefs.add(tongue, t, tape.bytes, size);
    }

    public int choose(int n) {
        if (n < 0 || n > Briefs.MOST) {
            return RANGE;
        }
        briefs.weigh(tongue);
        return briefs.chooseBest(n);
    }

    public int chosen() {
        return briefs.best;
    }

    public int saves(int set) {
        if (!briefs.isSet(set)) {
            return RANGE;
        }
        briefs.weigh(tongue);
        return briefs.fits(set) ? briefs.savedBy(set) : NONE;
    }

    public int adopt(int set) {
        if (!briefs.isSet(set)) {
            return RANGE;
        }
        briefs.weigh(tongue);
        return briefs.fits(set) ? briefs.giveTo(tongue, set) : NONE;
    }

    // ---- passages

    public int joins(int p, int q, boolean is) {
        if (!tongue.knows(p) || !tongue.knows(q)) {
            return RANGE;
        }
        if (tongue.mayJoin(p, q) == is) {
            return 0;
        }
        tongue.joined[p] ^= 1L << q;
        return 1;
    }

    public int beside(int p, int q, int points) {
        if (!tongue.knows(p) || !tongue.knows(q) || points < 0 || points > 999) {
            return RANGE;
        }
        int old = tongue.pointsOf(p, q);
        tongue.points[p * Tongue.MOST + q] = points;
        return old;
    }

    public int clear() {
        int had = passage.size;
        passage.size = 0;
        return had;
    }

    public int say(int t) {
        if (!tongue.knows(t)) {
            return RANGE;
        }
        return passage.size >= Passage.MOST ? FULL : passage.add(t);
    }

    public int phrased() {
        if (passage.size == 0) {
            return STATE;
        }
        return passage.hasForms(tongue) ? passage.cutBest(tongue) : NONE;
    }

    public int phrase(int what) {
        if (what == 0 && passage.phrases > 0) {
            return passage.phrases;
        }
        return what >= 10 && what - 10 < passage.phrases ? passage.phraseSizes[what - 10] : NONE;
    }

    // ---- dictation

    public int dictate(int pace, int mind) {
        if (pace < 1 || pace > 99 || mind < 1 || mind > 20) {
            return RANGE;
        }
        if (passage.size == 0) {
            return STATE;
        }
        if (!passage.hasForms(tongue)) {
            return NONE;
        }
        reading.held = false;
        dictation.start(passage, pace, mind);
        return dictation.takeDown(tongue, policy);
    }

    public int taken(int what) {
        return dictation.told && what >= 0 && what < dictation.tallies.length
                ? dictation.tallies[what] : NONE;
    }

    public int note(int i, int what) {
        if (!dictation.hasNote(i)) {
            return ABSENT;
        }
        Row row = dictation.rows[i];
        switch (what) {
            case 0:
                return dictation.spots[i];
            case 1:
                return row.size;
            case 2:
                return row.place;
            case 3:
                return dictation.whole[i] ? 1 : 0;
            case 4:
                return dictation.ticks[i];
            default:
                return what < 10 ? ABSENT : row.signAt(what - 10);
        }
    }

    public int reads(int i, int t) {
        if (!dictation.hasNote(i) || !tongue.knows(t)) {
            return RANGE;
        }
        return dictation.readsAs(i, tongue.formOf(t)) ? 1 : 0;
    }

    public int readBack() {
        if (!dictation.told) {
            return STATE;
        }
        return reading.findReadings(tongue, dictation) ? reading.readBest(tongue, dictation.size()) : NONE;
    }

    public int back(int i) {
        return reading.held && i >= 0 && i < reading.size ? reading.row[i] : NONE;
    }

    public int wrong() {
        return reading.held ? reading.changesTo(dictation.spoken, dictation.spokenSize) : NONE;
    }

    // ---- lessons, pupils

    public int lessons(int set) {
        if (set <= 0 || set >> script.rules[Script.SIGNS] != 0 || Integer.bitCount(set) > Course.MOST) {
            return RANGE;
        }
        return course.planBest(tongue, set);
    }

    public int lesson(int i) {
        return i >= 0 && i < course.size ? course.order[i] : NONE;
    }

    public int mark(int p, int day, int words, int wrong, int told) {
        if (!Marks.isPupil(p) || !Marks.isDay(day) || !marks.canTell(words, wrong, told)) {
            return RANGE;
        }
        return marks.size >= Marks.MOST ? FULL : marks.add(p, day, words, wrong, told);
    }

    public int right(int k, int words, int wrong, int told) {
        if (k < 0 || k >= marks.size || !marks.canTell(words, wrong, told)) {
            return RANGE;
        }
        return marks.rightings >= Marks.MOST ? FULL : marks.amend(k, words, wrong, told);
    }

    public int grade(int p, int day, int known) {
        if (!Marks.isPupil(p) || !Marks.isDay(day) || !Marks.isDay(known)) {
            return RANGE;
        }
        int k = marks.find(p, day, known);
        return k < 0 ? NONE : marks.gradeOf(k, known);
    }

    public int count(int what) {
        switch (what) {
            case 0:
                return tongue.size;
            case 1:
                return briefs.size;
            case 2:
                return passage.size;
            case 3:
                return policy.size;
            case 4:
                return marks.size;
            case 5:
                return marks.rightings;
            case 6:
                return tape.size;
            case 7:
                return tongue.countForms();
            case 8:
                return tongue.countBriefs();
            default:
                return NONE;
        }
    }

    /** THE TAPE, the TOKENS on it, and the FAULT of the latest text that was read from it. */
    private static final class Tape {
        static final int MOST = 800;

        static final int SYNTAX = 1;
        static final int BOUNDS = 2;
        static final int TWICE = 3;
        static final int ROOM = 4;

        static final int TEXT_END = 0;
        static final int WORD = 1;
        static final int NUMBER = 2;
        static final int SEMICOLON = 3;
        static final int BAD = 4;

        static final int MOST_LETTERS = 12;
        static final int MOST_DIGITS = 4;

        final int[] bytes = new int[MOST];
        int size;
        int faultKind;
        int faultPlace = NONE;

        private int at;
        private int kind;
        private int start;
        /** The latest N that was taken. */
        int value;

        void append(int four) {
            for (int shift = 24; shift >= 0 && size < MOST; shift -= 8) {
                bytes[size] = four >>> shift & 255;
                size++;
            }
        }

        void rewind() {
            at = 0;
            faultKind = 0;
            faultPlace = NONE;
        }

        void next() {
            while (at < size && isBlank(bytes[at])) {
                at++;
            }
            start = at;
            if (at >= size) {
                kind = TEXT_END;
            } else if (passRun('a', 'z')) {
                kind = at - start <= MOST_LETTERS ? WORD : BAD;
            } else if (passRun('0', '9')) {
                kind = at - start <= MOST_DIGITS ? NUMBER : BAD;
            } else {
                kind = bytes[at] == ';' ? SEMICOLON : BAD;
                at++;
            }
        }

        private static boolean isBlank(int one) {
            return one == ' ' || one == '\n';
        }

        /** Passes the bytes between two, as many as there are: whether there are any. */
        private boolean passRun(int least, int greatest) {
            while (at < size && bytes[at] >= least && bytes[at] <= greatest) {
                at++;
            }
            return at > start;
        }

        boolean isAtEnd() {
            return kind == TEXT_END;
        }

        boolean is(String word) {
            if (kind != WORD || at - start != word.length()) {
                return false;
            }
            for (int i = 0; i < word.length(); i++) {
                if (bytes[start + i] != word.charAt(i)) {
                    return false;
                }
            }
            return true;
        }

        /** The FAULT is told at the latest TOKEN; answers false, for its callers to hand on. */
        boolean refuse(int faultKind) {
            this.faultKind = faultKind;
            this.faultPlace = start;
            return false;
        }

        boolean takeSemicolon() {
            next();
            return kind == SEMICOLON || refuse(SYNTAX);
        }

        boolean takeNumber(int least, int most) {
            next();
            if (kind != NUMBER) {
                return refuse(SYNTAX);
            }
            value = 0;
            for (int i = start; i < at; i++) {
                value = value * 10 + bytes[i] - '0';
            }
            return value >= least && value <= most || refuse(BOUNDS);
        }

        boolean takeRow(int most) {
            next();
            if (kind != WORD || !isRowOfSounds(start, at)) {
                return refuse(SYNTAX);
            }
            return at - start <= most || refuse(BOUNDS);
        }

        /** Whether the whole tape is one ROW and blanks, which are no part of it; the FAULT stays as it was. */
        boolean isOneRow(int most) {
            at = 0;
            next();
            return kind == WORD && isRowOfSounds(start, at) && rowSize() <= most && isBlankFrom(at);
        }

        private boolean isBlankFrom(int from) {
            for (int i = from; i < size; i++) {
                if (!isBlank(bytes[i])) {
                    return false;
                }
            }
            return true;
        }

        int rowSize() {
            return at - start;
        }

        int soundOfRow(int i) {
            return i >= 0 && i < at - start ? bytes[start + i] - 'a' : NONE;
        }

        boolean isRowOfSounds(int from, int to) {
            for (int i = from; i < to; i++) {
                if (bytes[i] < 'a' || bytes[i] > 'p') {
                    return false;
                }
            }
            return to > from;
        }

        boolean isRowOfSigns(int signs) {
            for (int i = 0; i < size; i++) {
                if (bytes[i] < 'A' || bytes[i] >= 'A' + signs) {
                    return false;
                }
            }
            return size > 0;
        }
    }

    /** A SYSTEM: its rules, numbered as rule(what) numbers them, and its SIGNS. */
    private static final class Script {
        static final int VOWELS = 0;
        static final int LENGTH = 1;
        static final int TURN = 2;
        static final int LIFT = 3;
        static final int SHARP = 4;
        static final int DROP = 5;
        static final int PHRASE = 6;
        static final int SIGNS = 7;

        static final int DROP_INNER = 1;
        static final int DROP_ALL = 2;

        static final int MOST_SIGNS = 30;
        static final int MOST_VOWELS = 5;
        static final int LONGEST = 4;

        private static final int[] UNTOLD = {0, 2, 1, 6, 4, 0, 3, 0};
        private static final int[] LEAST = {0, 0, 0, 0, 0, 0, 1, 0};
        private static final int[] GREATEST = {0, 9, 9, 99, 4, 0, 8, 0};

        final int[] rules = UNTOLD.clone();
        final int[] vowels = new int[MOST_VOWELS];
        final int[] ways = new int[MOST_SIGNS];
        final int[] lengths = new int[MOST_SIGNS];
        final int[] sizes = new int[MOST_SIGNS];
        final int[] sounds = new int[MOST_SIGNS * LONGEST];
        private final boolean[] told = new boolean[SIGNS];

        /** Reads a whole text: how many clauses; NONE with a FAULT. */
        int learn(Tape tape) {
            System.arraycopy(UNTOLD, 0, rules, 0, rules.length);
            for (int i = 0; i < told.length; i++) {
                told[i] = false;
            }
            tape.rewind();
            for (int clauses = 0; clauses <= Tape.MOST; clauses++) {
                tape.next();
                if (tape.isAtEnd()) {
                    return clauses;
                }
                if (!readClause(tape)) {
                    return NONE;
                }
            }
            return NONE;
        }

        private boolean readClause(Tape tape) {
            int which = clauseAt(tape);
            if (which < 0) {
                return tape.refuse(Tape.SYNTAX);
            }
            if (which == SIGNS) {
                return readSign(tape) && tape.takeSemicolon();
            }
            if (told[which]) {
                return tape.refuse(Tape.TWICE);
            }
            told[which] = true;
            boolean isRead = which == VOWELS ? readVowels(tape)
                    : which == DROP ? readDrop(tape) : readNumber(tape, which);
            return isRead && tape.takeSemicolon();
        }

        private static int clauseAt(Tape tape) {
            if (tape.is("sign")) {
                return SIGNS;
            }
            if (tape.is("vowels")) {
                return VOWELS;
            }
            if (tape.is("length")) {
                return LENGTH;
            }
            if (tape.is("turn")) {
                return TURN;
            }
            if (tape.is("lift")) {
                return LIFT;
            }
            if (tape.is("sharp")) {
                return SHARP;
            }
            if (tape.is("drop")) {
                return DROP;
            }
            return tape.is("phrase") ? PHRASE : NONE;
        }

        private boolean readNumber(Tape tape, int which) {
            if (!tape.takeNumber(LEAST[which], GREATEST[which])) {
                return false;
            }
            rules[which] = tape.value;
            return true;
        }

        private boolean readVowels(Tape tape) {
            if (!tape.takeRow(MOST_VOWELS)) {
                return false;
            }
            for (int i = 0; i < tape.rowSize(); i++) {
                int sound = tape.soundOfRow(i);
                if (vowelNumber(sound) >= 0) {
                    return tape.refuse(Tape.BOUNDS);
                }
                vowels[i] = sound;
                rules[VOWELS] = i + 1;
            }
            return true;
        }

        private boolean readDrop(Tape tape) {
            tape.next();
            if (tape.is("all")) {
                rules[DROP] = DROP_ALL;
            } else if (tape.is("inner")) {
                rules[DROP] = DROP_INNER;
            } else if (!tape.is("none")) {
                return tape.refuse(Tape.SYNTAX);
            }
            return true;
        }

        private boolean readSign(Tape tape) {
            int s = rules[SIGNS];
            if (s >= MOST_SIGNS) {
                return tape.refuse(Tape.ROOM);
            }
            if (!tape.takeRow(LONGEST)) {
                return false;
            }
            sizes[s] = tape.rowSize();
            for (int i = 0; i < sizes[s]; i++) {
                sounds[s * LONGEST + i] = tape.soundOfRow(i);
            }
            // The new SIGN isn't counted yet, so only an earlier one can be found here.
            if (signFor(sounds, s * LONGEST, sizes[s]) >= 0) {
                return tape.refuse(Tape.TWICE);
            }
            if (!tape.takeNumber(0, 7)) {
                return false;
            }
            ways[s] = tape.value;
            if (!tape.takeNumber(1, 3)) {
                return false;
            }
            lengths[s] = tape.value;
            rules[SIGNS] = s + 1;
            return true;
        }

        /** The SIGN whose ROW stands in the given row from there on; NONE. */
        int signFor(int[] row, int from, int size) {
            for (int s = 0; s < rules[SIGNS]; s++) {
                if (sizes[s] == size && hasSounds(s, row, from)) {
                    return s;
                }
            }
            return NONE;
        }

        private boolean hasSounds(int s, int[] row, int from) {
            for (int i = 0; i < sizes[s]; i++) {
                if (sounds[s * LONGEST + i] != row[from + i]) {
                    return false;
                }
            }
            return true;
        }

        int vowelNumber(int sound) {
            for (int i = 0; i < rules[VOWELS]; i++) {
                if (vowels[i] == sound) {
                    return i;
                }
            }
            return NONE;
        }

        int strokeCost(int s) {
            return rules[LENGTH] * lengths[s];
        }

        int turnBetween(int s, int next) {
            int left = ways[next] - ways[s] & 7;
            return left > 4 ? 8 - left : left;
        }

        boolean needsLift(int s, int next) {
            return turnBetween(s, next) > rules[SHARP];
        }

        int joinCost(int s, int next) {
            int turn = turnBetween(s, next);
            return turn > rules[SHARP] ? rules[LIFT] : rules[TURN] * turn;
        }

        /** Two SIGNS LOOK alike if these numbers are the same. */
        int lookOf(int s) {
            return ways[s] * 4 + lengths[s];
        }
    }

    /** A row of SIGNS with its PLACE: an OUTLINE (of no SIGNS if there is none), a brief or a NOTE. */
    private static final class Row {
        static final int MOST = 10;

        final int[] signs = new int[MOST];
        private final int[] looks = new int[MOST];
        int size;
        int place = 1;
        int cost;
        int lifts;

        void restart(int place) {
            this.place = place;
            size = 0;
            cost = 0;
            lifts = 0;
        }

        void add(Script script, int s) {
            if (size >= MOST) {
                return;
            }
            if (size > 0) {
                int before = signs[size - 1];
                cost += script.joinCost(before, s);
                lifts += script.needsLift(before, s) ? 1 : 0;
            }
            cost += script.strokeCost(s);
            signs[size] = s;
            looks[size] = script.lookOf(s);
            size++;
        }

        int signAt(int i) {
            return i >= 0 && i < size ? signs[i] : ABSENT;
        }

        boolean looksLike(Row other) {
            return size == other.size && startsLike(other);
        }

        /** Whether the SIGNS of this row LOOK like the first ones of the other, PLACE and all. */
        boolean startsLike(Row other) {
            if (place != other.place || size > other.size) {
                return false;
            }
            for (int i = 0; i < size; i++) {
                if (looks[i] != other.looks[i]) {
                    return false;
                }
            }
            return true;
        }
    }

    /** The TERMS, with their OUTLINES, ADOPTED briefs, JOINS and points BESIDE. */
    private static final class Tongue {
        static final int MOST = 60;
        static final int LONGEST = 10;

        /** A piece of a SKELETON is numbered by where it begins times this, and its size. */
        private static final int STEP = Script.LONGEST + 1;

        Script script;
        int size;
        final int[] counts = new int[MOST];
        final int[] sizes = new int[MOST];
        final int[] skeletonSizes = new int[MOST];
        final int[] skeletons = new int[MOST * LONGEST];
        final Row[] outlines = new Row[MOST];
        final long[] joined = new long[MOST];
        final int[] points = new int[MOST * MOST];
        private final int[] sounds = new int[MOST * LONGEST];
        private final Row[] adopted = new Row[MOST];

        // Of each piece: its SIGN, how the rest from it on is drawn best, and what that takes.
        private final int[] pieceSigns = new int[LONGEST * STEP];
        private final int[] pieceNexts = new int[LONGEST * STEP];
        private final int[] pieceCosts = new int[LONGEST * STEP];
        private final int[] pieceCounts = new int[LONGEST * STEP];

        Tongue(Script script) {
            this.script = script;
            for (int t = 0; t < MOST; t++) {
                outlines[t] = new Row();
            }
        }

        boolean knows(int t) {
            return t >= 0 && t < size;
        }

        /** Whether a TERM has the ROW that was read from the tape. */
        boolean has(Tape tape) {
            for (int t = 0; t < size; t++) {
                if (sizes[t] == tape.rowSize() && hasSounds(t, tape)) {
                    return true;
                }
            }
            return false;
        }

        private boolean hasSounds(int t, Tape tape) {
            for (int i = 0; i < sizes[t]; i++) {
                if (sounds[t * LONGEST + i] != tape.soundOfRow(i)) {
                    return false;
                }
            }
            return true;
        }

        int add(Tape tape, int count) {
            int t = size;
            size++;
            counts[t] = count;
            sizes[t] = tape.rowSize();
            for (int i = 0; i < sizes[t]; i++) {
                sounds[t * LONGEST + i] = tape.soundOfRow(i);
            }
            draw(t);
            return t;
        }

        void redraw(Script script) {
            this.script = script;
            dropBriefs();
            for (int t = 0; t < size; t++) {
                draw(t);
            }
        }

        void dropBriefs() {
            for (int t = 0; t < MOST; t++) {
                adopted[t] = null;
            }
        }

        void adoptFor(int t, Row brief) {
            adopted[t] = brief;
        }

        private void draw(int t) {
            outlines[t].restart(placeOf(t));
            findSkeleton(t);
            int end = skeletonSizes[t];
            if (end == 0) {
                return;
            }
            // From the end to the beginning, so that what follows a piece is known when it is weighed.
            for (int from = end - 1; from >= 0; from--) {
                for (int length = 1; length <= Script.LONGEST; length++) {
                    weighPiece(t, from, length);
                }
            }
            int piece = bestPiece(0, NONE);
            for (int i = 0; i < LONGEST && piece >= 0; i++) {
                outlines[t].add(script, pieceSigns[piece]);
                piece = pieceNexts[piece];
            }
        }

        private int placeOf(int t) {
            for (int i = 0; i < sizes[t]; i++) {
                int vowel = script.vowelNumber(sounds[t * LONGEST + i]);
                if (vowel >= 0) {
                    return vowel % 3;
                }
            }
            return 1;
        }

        private void findSkeleton(int t) {
            int kept = 0;
            for (int i = 0; i < sizes[t]; i++) {
                int sound = sounds[t * LONGEST + i];
                if (script.vowelNumber(sound) < 0 || keepsVowel(t, i)) {
                    skeletons[t * LONGEST + kept] = sound;
                    kept++;
                }
            }
            skeletonSizes[t] = kept;
        }

        private boolean keepsVowel(int t, int i) {
            switch (script.rules[Script.DROP]) {
                case Script.DROP_ALL:
                    return false;
                case Script.DROP_INNER:
                    return i == 0 || i == sizes[t] - 1;
                default:
                    return true;
            }
        }

        private void weighPiece(int t, int from, int length) {
            int piece = from * STEP + length;
            int until = from + length;
            int end = skeletonSizes[t];
            int s = until <= end ? script.signFor(skeletons, t * LONGEST + from, length) : NONE;
            int next = s >= 0 && until < end ? bestPiece(until, s) : NONE;
            boolean reachesEnd = s >= 0 && (until == end || next >= 0);
            pieceSigns[piece] = reachesEnd ? s : NONE;
            if (!reachesEnd) {
                return;
            }
            pieceNexts[piece] = next;
            pieceCosts[piece] = script.strokeCost(s);
            pieceCounts[piece] = 1;
            if (next >= 0) {
                pieceCosts[piece] += script.joinCost(s, pieceSigns[next]) + pieceCosts[next];
                pieceCounts[piece] += pieceCounts[next];
            }
        }

        /** The piece with which the rest is drawn best behind a SIGN (or at the beginning, NONE); NONE. */
        private int bestPiece(int from, int before) {
            int best = NONE;
            int bestCost = 0;
            for (int length = 1; length <= Script.LONGEST; length++) {
                int piece = from * STEP + length;
                int s = pieceSigns[piece];
                if (s < 0) {
                    continue;
                }
                int cost = pieceCosts[piece] + (before < 0 ? 0 : script.joinCost(before, s));
                if (best < 0 || cost < bestCost || cost == bestCost && comesAhead(piece, best)) {
                    best = piece;
                    bestCost = cost;
                }
            }
            return best;
        }

        // No two pieces from one spot have the same SIGN, so the first SIGN settles which row is less.
        private boolean comesAhead(int piece, int other) {
            if (pieceCounts[piece] != pieceCounts[other]) {
                return pieceCounts[piece] < pieceCounts[other];
            }
            return pieceSigns[piece] < pieceSigns[other];
        }

        Row formOf(int t) {
            Row brief = adopted[t];
            return brief == null ? outlines[t] : brief;
        }

        /** Only a TERM with an OUTLINE can have a brief, so both are there or neither. */
        boolean hasForm(int t) {
            return outlines[t].size > 0;
        }

        int lookalikes(int t) {
            Row form = formOf(t);
            int alike = 0;
            for (int u = 0; u < size; u++) {
                if (u != t && hasForm(u) && form.looksLike(formOf(u))) {
                    alike++;
                }
            }
            return alike;
        }

        int countForms() {
            int forms = 0;
            for (int t = 0; t < size; t++) {
                forms += hasForm(t) ? 1 : 0;
            }
            return forms;
        }

        int countBriefs() {
            int briefs = 0;
            for (int t = 0; t < size; t++) {
                briefs += adopted[t] == null ? 0 : 1;
            }
            return briefs;
        }

        boolean mayJoin(int p, int q) {
            return (joined[p] >> q & 1L) != 0;
        }

        int pointsOf(int p, int q) {
            return points[p * MOST + q];
        }
    }

    /** The CANDIDATES, and which sets of them can be CHOSEN. */
    private static final class Briefs {
        static final int MOST = 12;
        static final int LONGEST = 3;

        int size;
        /** The set of the latest choose(). */
        int best;
        private final Row[] rows = new Row[MOST];
        private final int[] owners = new int[MOST];

        // What weigh() finds of each CANDIDATE; a TERM is told by the bit of its first CANDIDATE.
        private final boolean[] possible = new boolean[MOST];
        private final int[] clashes = new int[MOST];
        private final int[] homes = new int[MOST];
        private final int[] needs = new int[MOST];
        private final int[] gains = new int[MOST];

        Briefs() {
            for (int i = 0; i < MOST; i++) {
                rows[i] = new Row();
            }
        }

        void forget() {
            size = 0;
            best = 0;
        }

        int add(Tongue tongue, int t, int[] letters, int letterCount) {
            Row row = rows[size];
            row.restart(tongue.outlines[t].place);
            for (int i = 0; i < letterCount; i++) {
                row.add(tongue.script, letters[i] - 'A');
            }
            owners[size] = t;
            best = 0;
            size++;
            return size - 1;
        }

        boolean isSet(int set) {
            return set >= 0 && set < 1 << size;
        }

        void weigh(Tongue tongue) {
            for (int i = 0; i < size; i++) {
                int t = owners[i];
                int saved = tongue.outlines[t].cost - rows[i].cost;
                possible[i] = tongue.hasForm(t);
                gains[i] = tongue.counts[t] * saved;
                homes[i] = homeOf(t);
                clashes[i] = clashesOf(i);
                findNeeds(tongue, i);
            }
        }

        /** The bit of the first CANDIDATE of a TERM; 0 if it has none. */
        private int homeOf(int t) {
            for (int i = 0; i < size; i++) {
                if (owners[i] == t) {
                    return 1 << i;
                }
            }
            return 0;
        }

        private int clashesOf(int i) {
            int set = 0;
            for (int j = 0; j < size; j++) {
                if (j != i && (owners[j] == owners[i] || rows[j].looksLike(rows[i]))) {
                    set |= 1 << j;
                }
            }
            return set;
        }

        /** The TERMS whose OUTLINES this one LOOKS like need CHOSEN ones of their own. */
        private void findNeeds(Tongue tongue, int i) {
            needs[i] = 0;
            for (int t = 0; t < tongue.size; t++) {
                if (t != owners[i] && rows[i].looksLike(tongue.outlines[t])) {
                    int home = homeOf(t);
                    needs[i] |= home;
                    possible[i] = possible[i] && home != 0;
                }
            }
        }

        /** Whether a set can be CHOSEN, by what weigh() found. */
        boolean fits(int set) {
            int needed = 0;
            int there = 0;
            for (int i = 0; i < size; i++) {
                if ((set >> i & 1) == 0) {
                    continue;
                }
                if (!possible[i] || (clashes[i] & set) != 0) {
                    return false;
                }
                needed |= needs[i];
                there |= homes[i];
            }
            return (needed & ~there) == 0;
        }

        int savedBy(int set) {
            int sum = 0;
            for (int i = 0; i < size; i++) {
                sum += (set >> i & 1) == 0 ? 0 : gains[i];
            }
            return sum;
        }

        int chooseBest(int n) {
            int most = 0;
            best = 0;
            // Sets come from the least on, so of equal ones the least is found first.
            for (int set = 1; set < 1 << size; set++) {
                if (Integer.bitCount(set) > n || !fits(set)) {
                    continue;
                }
                int saved = savedBy(set);
                if (saved > most || saved == most && Integer.bitCount(set) < Integer.bitCount(best)) {
                    most = saved;
                    best = set;
                }
            }
            return most;
        }

        int giveTo(Tongue tongue, int set) {
            tongue.dropBriefs();
            for (int i = 0; i < size; i++) {
                if ((set >> i & 1) != 0) {
                    tongue.adoptFor(owners[i], rows[i]);
                }
            }
            return Integer.bitCount(set);
        }
    }

    /** The PASSAGE, and the phrases of the latest phrased() that told a COST. */
    private static final class Passage {
        static final int MOST = 60;

        final int[] terms = new int[MOST];
        int size;
        final int[] phraseSizes = new int[MOST];
        int phrases;

        // Of the rest from each TERM on, cut best: its COST, its phrases, and the size of the first.
        private final int[] restCosts = new int[MOST + 1];
        private final int[] restPhrases = new int[MOST + 1];
        private final int[] firstSizes = new int[MOST + 1];

        int add(int t) {
            terms[size] = t;
            size++;
            return size;
        }

        boolean hasForms(Tongue tongue) {
            for (int i = 0; i < size; i++) {
                if (!tongue.hasForm(terms[i])) {
                    return false;
                }
            }
            return true;
        }

        int cutBest(Tongue tongue) {
            restCosts[size] = 0;
            restPhrases[size] = 0;
            for (int i = size - 1; i >= 0; i--) {
                cutRest(tongue, i);
            }
            phrases = 0;
            for (int i = 0; i < size && phrases < MOST; i += firstSizes[i]) {
                phraseSizes[phrases] = firstSizes[i];
                phrases++;
            }
            return restCosts[0];
        }

        private void cutRest(Tongue tongue, int from) {
            Script script = tongue.script;
            int longest = Math.min(script.rules[Script.PHRASE], size - from);
            int within = 0;
            firstSizes[from] = 0;
            for (int length = 1; length <= longest; length++) {
                int last = from + length - 1;
                if (length > 1) {
                    if (!goesOn(tongue, last - 1)) {
                        break;
                    }
                    within += script.rules[Script.TURN] * turnBehind(tongue, last - 1);
                }
                within += tongue.formOf(terms[last]).cost;
                int lift = last + 1 < size ? script.rules[Script.LIFT] : 0;
                offer(from, length, within + lift + restCosts[last + 1]);
            }
        }

        /** A longer first phrase is offered later, so it must be better, not as good. */
        private void offer(int from, int length, int cost) {
            int count = 1 + restPhrases[from + length];
            if (firstSizes[from] == 0 || cost < restCosts[from]
                    || cost == restCosts[from] && count < restPhrases[from]) {
                restCosts[from] = cost;
                restPhrases[from] = count;
                firstSizes[from] = length;
            }
        }

        /** Whether the TERM behind this one may stand in one phrase with it. */
        private boolean goesOn(Tongue tongue, int i) {
            return tongue.mayJoin(terms[i], terms[i + 1])
                    && turnBehind(tongue, i) <= tongue.script.rules[Script.SHARP];
        }

        private int turnBehind(Tongue tongue, int i) {
            Row form = tongue.formOf(terms[i]);
            if (form.size == 0) {
                return 0;
            }
            return tongue.script.turnBetween(form.signs[form.size - 1], tongue.formOf(terms[i + 1]).signs[0]);
        }
    }

    /** A POLICY: lines of conditions, each with an act. */
    private static final class Policy {
        static final int MOST = 8;
        static final int MOST_CONDITIONS = 4;

        private static final int MOST_SHORT = 6;
        private static final int MOST_REST = 50;

        static final int WRITE = 0;
        static final int LEAVE = 1;
        static final int SHORTEN = 2;
        static final int REST = 3;

        static final int MIND = 0;
        static final int LATE = 1;
        static final int COST = 2;
        static final int COUNT = 3;
        static final int SIGNS = 4;
        static final int SUBJECTS = 5;

        private static final int ABOVE = 0;
        private static final int BELOW = 1;
        private static final int IS = 2;

        /** The greatest N that a condition can name. */
        static final int GREATEST = 9999;

        int size;
        private final int[] conditions = new int[MOST];
        private final int[] acts = new int[MOST];
        private final int[] numbers = new int[MOST];
        private final int[] subjects = new int[MOST * MOST_CONDITIONS];
        private final int[] relations = new int[MOST * MOST_CONDITIONS];
        private final int[] bounds = new int[MOST * MOST_CONDITIONS];

        /** Reads a whole text: how many lines; NONE with a FAULT. */
        int learn(Tape tape) {
            size = 0;
            tape.rewind();
            for (int lines = 0; lines <= MOST; lines++) {
                tape.next();
                if (tape.isAtEnd()) {
                    return size;
                }
                if (!readLine(tape)) {
                    return NONE;
                }
                size++;
            }
            return NONE;
        }

        private boolean readLine(Tape tape) {
            if (!tape.is("when")) {
                return tape.refuse(Tape.SYNTAX);
            }
            if (size >= MOST) {
                return tape.refuse(Tape.ROOM);
            }
            conditions[size] = 0;
            if (!readCondition(tape)) {
                return false;
            }
            tape.next();
            for (int i = 0; i < MOST_CONDITIONS && tape.is("and"); i++) {
                if (conditions[size] >= MOST_CONDITIONS) {
                    return tape.refuse(Tape.ROOM);
                }
                if (!readCondition(tape)) {
                    return false;
                }
                tape.next();
            }
            if (!tape.is("do")) {
                return tape.refuse(Tape.SYNTAX);
            }
            return readAct(tape) && tape.takeSemicolon();
        }

        private boolean readCondition(Tape tape) {
            int spot = size * MOST_CONDITIONS + conditions[size];
            tape.next();
            subjects[spot] = subjectAt(tape);
            if (subjects[spot] < 0) {
                return tape.refuse(Tape.SYNTAX);
            }
            tape.next();
            relations[spot] = relationAt(tape);
            if (relations[spot] < 0) {
                return tape.refuse(Tape.SYNTAX);
            }
            if (!tape.takeNumber(0, GREATEST)) {
                return false;
            }
            bounds[spot] = tape.value;
            conditions[size]++;
            return true;
        }

        private static int subjectAt(Tape tape) {
            if (tape.is("mind")) {
                return MIND;
            }
            if (tape.is("late")) {
                return LATE;
            }
            if (tape.is("cost")) {
                return COST;
            }
            if (tape.is("count")) {
                return COUNT;
            }
            return tape.is("signs") ? SIGNS : NONE;
        }

        private static int relationAt(Tape tape) {
            if (tape.is("above")) {
                return ABOVE;
            }
            if (tape.is("below")) {
                return BELOW;
            }
            return tape.is("is") ? IS : NONE;
        }

        private boolean readAct(Tape tape) {
            tape.next();
            int act = actAt(tape);
            if (act < 0) {
                return tape.refuse(Tape.SYNTAX);
            }
            acts[size] = act;
            if (act == SHORTEN || act == REST) {
                if (!tape.takeNumber(1, act == SHORTEN ? MOST_SHORT : MOST_REST)) {
                    return false;
                }
                numbers[size] = tape.value;
            }
            return true;
        }

        private static int actAt(Tape tape) {
            if (tape.is("write")) {
                return WRITE;
            }
            if (tape.is("drop")) {
                return LEAVE;
            }
            if (tape.is("short")) {
                return SHORTEN;
            }
            return tape.is("rest") ? REST : NONE;
        }

        /** The first line all conditions of which hold for these values, by subject; NONE. */
        int lineFor(int[] values) {
            for (int line = 0; line < size; line++) {
                if (holds(line, values)) {
                    return line;
                }
            }
            return NONE;
        }

        private boolean holds(int line, int[] values) {
            for (int i = 0; i < conditions[line]; i++) {
                int spot = line * MOST_CONDITIONS + i;
                int value = values[subjects[spot]];
                boolean is = relations[spot] == ABOVE ? value > bounds[spot]
                        : relations[spot] == BELOW ? value < bounds[spot] : value == bounds[spot];
                if (!is) {
                    return false;
                }
            }
            return true;
        }

        int actOf(int line) {
            return line < 0 ? WRITE : acts[line];
        }

        int numberOf(int line) {
            return line < 0 ? 0 : numbers[line];
        }
    }

    /** The latest DICTATION that told a tick, and its NOTES. */
    private static final class Dictation {
        private static final int LAST_TICK = 99999;
        /** More than a tick's rest each and all that is spoken can come to. */
        private static final int MOST_STEPS = 200000;

        // Numbered as taken(what) numbers them.
        private static final int NOTED = 0;
        private static final int UNFIT = 1;
        private static final int DROPPED = 2;
        private static final int SHORTENED = 3;
        private static final int LATEST = 4;
        private static final int RESTED = 5;

        boolean told;
        final int[] tallies = new int[RESTED + 1];
        final Row[] rows = new Row[Passage.MOST];
        final int[] spots = new int[Passage.MOST];
        final int[] ticks = new int[Passage.MOST];
        final boolean[] whole = new boolean[Passage.MOST];
        /** The PASSAGE as it was then. */
        final int[] spoken = new int[Passage.MOST];
        int spokenSize;

        private int pace;
        private int room;
        private int tick;
        private int heard;
        /** What was ever in the mind, in its order: what is in it now stands from first to last. */
        private final int[] mind = new int[Passage.MOST];
        private int first;
        private int last;
        private final int[] values = new int[Policy.SUBJECTS];

        Dictation() {
            for (int i = 0; i < Passage.MOST; i++) {
                rows[i] = new Row();
            }
        }

        void forget() {
            told = false;
            Arrays.fill(tallies, 0);
        }

        int size() {
            return tallies[NOTED];
        }

        boolean hasNote(int i) {
            return told && i >= 0 && i < size();
        }

        void start(Passage passage, int pace, int room) {
            forget();
            told = true;
            spokenSize = passage.size;
            System.arraycopy(passage.terms, 0, spoken, 0, spokenSize);
            this.pace = pace;
            this.room = room;
            tick = 0;
            heard = 0;
            first = 0;
            last = 0;
        }

        int takeDown(Tongue tongue, Policy policy) {
            for (int step = 0; step < MOST_STEPS && tick < LAST_TICK; step++) {
                hear();
                if (first < last) {
                    act(tongue, policy);
                } else if (heard < spokenSize) {
                    tick = heard * pace;
                } else {
                    return tick;
                }
            }
            tallies[UNFIT] += last - first + spokenSize - heard;
            return LAST_TICK;
        }

        /** What was spoken up to now, this tick too, comes ahead of what the writer does now. */
        private void hear() {
            while (heard < spokenSize && heard * pace <= tick) {
                if (last - first < room) {
                    mind[last] = heard;
                    last++;
                } else {
                    tallies[UNFIT]++;
                }
                heard++;
            }
        }

        private void act(Tongue tongue, Policy policy) {
            int t = spoken[mind[first]];
            Row form = tongue.formOf(t);
            values[Policy.MIND] = last - first;
            values[Policy.LATE] = tick - mind[first] * pace;
            values[Policy.COST] = form.cost;
            values[Policy.COUNT] = tongue.counts[t];
            values[Policy.SIGNS] = form.size;
            int line = policy.lineFor(values);
            switch (policy.actOf(line)) {
                case Policy.LEAVE:
                    first++;
                    tallies[DROPPED]++;
                    break;
                case Policy.REST:
                    rest(policy.numberOf(line));
                    break;
                case Policy.SHORTEN:
                    write(tongue.script, form, policy.numberOf(line));
                    break;
                default:
                    write(tongue.script, form, form.size);
                    break;
            }
        }

        private void rest(int length) {
            // When all was spoken and no condition can name so late a tick, the same line holds for good.
            boolean forGood = heard == spokenSize && values[Policy.LATE] > Policy.GREATEST;
            int until = forGood ? LAST_TICK : Math.min(LAST_TICK, tick + length);
            tallies[RESTED] += until - tick;
            tick = until;
        }

        private void write(Script script, Row form, int signs) {
            int i = tallies[NOTED];
            Row row = rows[i];
            row.restart(form.place);
            for (int k = 0; k < signs && k < form.size; k++) {
                row.add(script, form.signs[k]);
            }
            spots[i] = mind[first];
            ticks[i] = tick;
            whole[i] = row.size == form.size;
            tallies[SHORTENED] += whole[i] ? 0 : 1;
            tallies[LATEST] = Math.max(tallies[LATEST], values[Policy.LATE]);
            tallies[NOTED]++;
            first++;
            tick += Math.max(1, row.cost);
        }

        boolean readsAs(int i, Row form) {
            return rows[i].startsLike(form) && (rows[i].size == form.size) == whole[i];
        }
    }

    /** The latest row of TERMS READ BACK. */
    private static final class Reading {
        boolean held;
        final int[] row = new int[Passage.MOST];
        int size;

        /** Of each NOTE the TERMS as which it READS, as bits. */
        private final long[] readings = new long[Passage.MOST];
        /** Of each NOTE and TERM, the TERM that goes on best behind it. */
        private final int[] nexts = new int[Passage.MOST * Tongue.MOST];
        private int[] points = new int[Tongue.MOST];
        private int[] laterPoints = new int[Tongue.MOST];
        private int[] changes = new int[Passage.MOST + 1];
        private int[] changesBefore = new int[Passage.MOST + 1];

        /** Whether each NOTE READS as some TERM. */
        boolean findReadings(Tongue tongue, Dictation dictation) {
            for (int i = 0; i < dictation.size(); i++) {
                long set = 0;
                for (int t = 0; t < tongue.size; t++) {
                    if (dictation.readsAs(i, tongue.formOf(t))) {
                        set |= 1L << t;
                    }
                }
                if (set == 0) {
                    return false;
                }
                readings[i] = set;
            }
            return true;
        }

        int readBest(Tongue tongue, int notes) {
            held = true;
            size = notes;
            if (notes == 0) {
                return 0;
            }
            for (int i = notes - 1; i >= 0; i--) {
                int[] spare = laterPoints;
                laterPoints = points;
                points = spare;
                weighNote(tongue, i);
            }
            int t = bestBehind(tongue, NONE, 0, points);
            int most = points[t];
            for (int i = 0; i < notes; i++) {
                row[i] = t;
                t = nexts[i * Tongue.MOST + t];
            }
            return most;
        }

        private void weighNote(Tongue tongue, int i) {
            for (int t = 0; t < tongue.size; t++) {
                if ((readings[i] >> t & 1L) == 0) {
                    continue;
                }
                points[t] = tongue.counts[t];
                int next = 0;
                if (i + 1 < size) {
                    next = bestBehind(tongue, t, i + 1, laterPoints);
                    points[t] += tongue.pointsOf(t, next) + laterPoints[next];
                }
                nexts[i * Tongue.MOST + t] = next;
            }
        }

        /** Of the TERMS as which a NOTE READS, the least with most points behind a TERM (or none, NONE). */
        private int bestBehind(Tongue tongue, int before, int i, int[] from) {
            int best = NONE;
            int most = 0;
            for (int t = 0; t < tongue.size; t++) {
                if ((readings[i] >> t & 1L) == 0) {
                    continue;
                }
                int sum = from[t] + (before < 0 ? 0 : tongue.pointsOf(before, t));
                if (best < 0 || sum > most) {
                    best = t;
                    most = sum;
                }
            }
            return Math.max(best, 0);
        }

        /** The fewest changes that make the row READ BACK the given one. */
        int changesTo(int[] other, int otherSize) {
            for (int j = 0; j <= otherSize; j++) {
                changes[j] = j;
            }
            for (int i = 0; i < size; i++) {
                int[] spare = changesBefore;
                changesBefore = changes;
                changes = spare;
                changes[0] = i + 1;
                for (int j = 0; j < otherSize; j++) {
                    int another = changesBefore[j] + (row[i] == other[j] ? 0 : 1);
                    int moved = 1 + Math.min(changes[j], changesBefore[j + 1]);
                    changes[j + 1] = Math.min(another, moved);
                }
            }
            return changes[otherSize];
        }
    }

    /** The LESSONS of the latest lessons() that told a GAIN. */
    private static final class Course {
        static final int MOST = 10;

        final int[] order = new int[MOST];
        int size;

        private final int[] signs = new int[MOST];
        /** Of each set that was taught: the sum of COUNTS that can be WRITTEN, and the GAIN still to come. */
        private final int[] sums = new int[1 << MOST];
        private final int[] gains = new int[1 << MOST];

        int planBest(Tongue tongue, int set) {
            listSigns(set);
            int all = (1 << size) - 1;
            sumCounts(tongue, set, all);
            gains[all] = 0;
            for (int taught = all - 1; taught >= 0; taught--) {
                int next = taught | 1 << bestNext(taught);
                gains[taught] = sums[next] + gains[next];
            }
            int taught = 0;
            for (int i = 0; i < size; i++) {
                int next = bestNext(taught);
                order[i] = signs[next];
                taught |= 1 << next;
            }
            return gains[0];
        }

        private void listSigns(int set) {
            size = 0;
            for (int s = 0; s < Script.MOST_SIGNS && size < MOST; s++) {
                if ((set >> s & 1) != 0) {
                    signs[size] = s;
                    size++;
                }
            }
        }

        private void sumCounts(Tongue tongue, int set, int all) {
            Arrays.fill(sums, 0, all + 1, 0);
            for (int t = 0; t < tongue.size; t++) {
                if (tongue.hasForm(t)) {
                    sums[wantedBy(tongue.formOf(t), set)] += tongue.counts[t];
                }
            }
            for (int i = 0; i < size; i++) {
                for (int taught = 0; taught <= all; taught++) {
                    if ((taught >> i & 1) != 0) {
                        sums[taught] += sums[taught ^ 1 << i];
                    }
                }
            }
        }

        /** The SIGNS of the set that a FORM has, as bits by their rank in the set. */
        private static int wantedBy(Row form, int set) {
            int wanted = 0;
            for (int k = 0; k < form.size; k++) {
                int s = form.signs[k];
                if ((set >> s & 1) != 0) {
                    wanted |= 1 << Integer.bitCount(set & (1 << s) - 1);
                }
            }
            return wanted;
        }

        /** The least SIGN (its rank) that is best taught next, where some aren't taught. */
        private int bestNext(int taught) {
            int best = NONE;
            int most = 0;
            for (int i = 0; i < size; i++) {
                int next = taught | 1 << i;
                if (next != taught && (best < 0 || sums[next] + gains[next] > most)) {
                    best = i;
                    most = sums[next] + gains[next];
                }
            }
            return Math.max(best, 0);
        }
    }

    /** The MARKS of the PUPILS, and how they were put RIGHT. */
    private static final class Marks {
        static final int MOST = 100;

        int size;
        int rightings;
        private int latestTold;
        private final int[] pupils = new int[MOST];
        private final int[] days = new int[MOST];
        private final int[] toldOn = new int[MOST];
        private final int[] grades = new int[MOST];
        private final int[] timesRight = new int[MOST];
        private final int[] rightMarks = new int[MOST];
        private final int[] rightToldOn = new int[MOST];
        private final int[] rightGrades = new int[MOST];

        static boolean isPupil(int p) {
            return p >= 0 && p <= 19;
        }

        static boolean isDay(int day) {
            return day >= 0 && day <= 999;
        }

        boolean canTell(int words, int wrongOnes, int told) {
            return words >= 0 && words <= 300 && wrongOnes >= 0 && wrongOnes <= 300
                    && isDay(told) && told >= latestTold;
        }

        // Only the grade is ever asked for, so it is what is kept.
        private static int worth(int words, int wrongOnes) {
            return Math.max(0, words - 4 * wrongOnes);
        }

        int add(int p, int day, int words, int wrongOnes, int told) {
            pupils[size] = p;
            days[size] = day;
            grades[size] = worth(words, wrongOnes);
            toldOn[size] = told;
            latestTold = told;
            size++;
            return size - 1;
        }

        int amend(int k, int words, int wrongOnes, int told) {
            rightMarks[rightings] = k;
            rightGrades[rightings] = worth(words, wrongOnes);
            rightToldOn[rightings] = told;
            rightings++;
            latestTold = told;
            timesRight[k]++;
            return timesRight[k];
        }

        /** The MARK that counts for a PUPIL on a day, as known on a day of telling; NONE. */
        int find(int p, int day, int known) {
            int best = NONE;
            for (int k = 0; k < size; k++) {
                boolean counts = pupils[k] == p && days[k] <= day && toldOn[k] <= known;
                if (counts && (best < 0 || days[k] >= days[best])) {
                    best = k;
                }
            }
            return best;
        }

        int gradeOf(int k, int known) {
            int grade = grades[k];
            for (int r = 0; r < rightings; r++) {
                if (rightMarks[r] == k && rightToldOn[r] <= known) {
                    grade = rightGrades[r];
                }
            }
            return grade;
        }
    }
}
